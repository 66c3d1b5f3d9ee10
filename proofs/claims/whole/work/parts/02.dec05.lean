theorem dX10_odds_27 : decode cX10_odds 27 = .ok (.ifCond .eq 6, 3) := by decide +kernel
theorem dX10_odds_30 : decode cX10_odds 30 = .ok (.iload_n 2, 1) := by decide +kernel
theorem dX10_odds_31 : decode cX10_odds 31 = .ok (.i2l, 1) := by decide +kernel
theorem dX10_odds_32 : decode cX10_odds 32 = .ok (.lreturn, 1) := by decide +kernel
theorem dX10_odds_33 : decode cX10_odds 33 = .ok (.aload_n 0, 1) := by decide +kernel
theorem dX10_odds_34 : decode cX10_odds 34 = .ok (.iload_n 1, 1) := by decide +kernel
theorem dX10_odds_35 : decode cX10_odds 35 = .ok (.invokevirtual 221, 3) := by decide +kernel
theorem dX10_odds_38 : decode cX10_odds 38 = .ok (.istore_n 3, 1) := by decide +kernel
theorem dX10_odds_39 : decode cX10_odds 39 = .ok (.iconst 1, 1) := by decide +kernel
theorem dX10_odds_40 : decode cX10_odds 40 = .ok (.invokestatic 215, 3) := by decide +kernel
theorem dX10_odds_43 : decode cX10_odds 43 = .ok (.i2l, 1) := by decide +kernel
theorem dX10_odds_44 : decode cX10_odds 44 = .ok (.bipush 100, 2) := by decide +kernel
theorem dX10_odds_46 : decode cX10_odds 46 = .ok (.iload_n 3, 1) := by decide +kernel
theorem dX10_odds_47 : decode cX10_odds 47 = .ok (.isub, 1) := by decide +kernel
theorem dX10_odds_48 : decode cX10_odds 48 = .ok (.i2l, 1) := by decide +kernel
theorem dX10_odds_49 : decode cX10_odds 49 = .ok (.lmul, 1) := by decide +kernel
theorem dX10_odds_50 : decode cX10_odds 50 = .ok (.lstore 4, 2) := by decide +kernel
theorem dX10_odds_52 : decode cX10_odds 52 = .ok (.aload_n 0, 1) := by decide +kernel
theorem dX10_odds_53 : decode cX10_odds 53 = .ok (.getfield 47, 3) := by decide +kernel
theorem dX10_odds_56 : decode cX10_odds 56 = .ok (.iload_n 1, 1) := by decide +kernel
theorem dX10_odds_57 : decode cX10_odds 57 = .ok (.iaload, 1) := by decide +kernel
theorem dX10_odds_58 : decode cX10_odds 58 = .ok (.iconst 1, 1) := by decide +kernel
theorem dX10_odds_59 : decode cX10_odds 59 = .ok (.if_icmp .eq 13, 3) := by decide +kernel
theorem dX10_odds_62 : decode cX10_odds 62 = .ok (.aload_n 0, 1) := by decide +kernel
theorem dX10_odds_63 : decode cX10_odds 63 = .ok (.getfield 47, 3) := by decide +kernel
theorem dX10_odds_66 : decode cX10_odds 66 = .ok (.iload_n 1, 1) := by decide +kernel
theorem dX10_odds_67 : decode cX10_odds 67 = .ok (.iaload, 1) := by decide +kernel
theorem dX10_odds_68 : decode cX10_odds 68 = .ok (.iconst 3, 1) := by decide +kernel
theorem dX10_odds_69 : decode cX10_odds 69 = .ok (.if_icmp .ne 7, 3) := by decide +kernel
theorem dX10_odds_72 : decode cX10_odds 72 = .ok (.iconst 5, 1) := by decide +kernel
theorem dX10_odds_73 : decode cX10_odds 73 = .ok (.goto 9, 3) := by decide +kernel
theorem dX10_odds_76 : decode cX10_odds 76 = .ok (.aload_n 0, 1) := by decide +kernel
theorem dX10_odds_77 : decode cX10_odds 77 = .ok (.getfield 47, 3) := by decide +kernel
theorem dX10_odds_80 : decode cX10_odds 80 = .ok (.iload_n 1, 1) := by decide +kernel
theorem dX10_odds_81 : decode cX10_odds 81 = .ok (.iaload, 1) := by decide +kernel
theorem dX10_odds_82 : decode cX10_odds 82 = .ok (.invokestatic 215, 3) := by decide +kernel
theorem dX10_odds_85 : decode cX10_odds 85 = .ok (.i2l, 1) := by decide +kernel
theorem dX10_odds_86 : decode cX10_odds 86 = .ok (.iload_n 3, 1) := by decide +kernel
theorem dX10_odds_87 : decode cX10_odds 87 = .ok (.iconst 1, 1) := by decide +kernel
theorem dX10_odds_88 : decode cX10_odds 88 = .ok (.iadd, 1) := by decide +kernel
theorem dX10_odds_89 : decode cX10_odds 89 = .ok (.i2l, 1) := by decide +kernel
theorem dX10_odds_90 : decode cX10_odds 90 = .ok (.lmul, 1) := by decide +kernel
theorem dX10_odds_91 : decode cX10_odds 91 = .ok (.lstore 6, 2) := by decide +kernel
theorem dX10_odds_93 : decode cX10_odds 93 = .ok (.lload 4, 2) := by decide +kernel
theorem dX10_odds_95 : decode cX10_odds 95 = .ok (.lload 6, 2) := by decide +kernel
theorem dX10_odds_97 : decode cX10_odds 97 = .ok (.ladd, 1) := by decide +kernel
theorem dX10_odds_98 : decode cX10_odds 98 = .ok (.lstore 8, 2) := by decide +kernel
theorem dX10_odds_100 : decode cX10_odds 100 = .ok (.iload_n 2, 1) := by decide +kernel
theorem dX10_odds_101 : decode cX10_odds 101 = .ok (.ifCond .ne 8, 3) := by decide +kernel
theorem dX10_odds_104 : decode cX10_odds 104 = .ok (.lload 4, 2) := by decide +kernel
theorem dX10_odds_106 : decode cX10_odds 106 = .ok (.goto 5, 3) := by decide +kernel
theorem dX10_odds_109 : decode cX10_odds 109 = .ok (.lload 8, 2) := by decide +kernel
theorem dX10_odds_111 : decode cX10_odds 111 = .ok (.lload 4, 2) := by decide +kernel
theorem dX10_odds_113 : decode cX10_odds 113 = .ok (.lload 8, 2) := by decide +kernel
theorem dX10_odds_115 : decode cX10_odds 115 = .ok (.invokestatic 400, 3) := by decide +kernel
theorem dX10_odds_118 : decode cX10_odds 118 = .ok (.ldiv, 1) := by decide +kernel
theorem dX10_odds_119 : decode cX10_odds 119 = .ok (.lreturn, 1) := by decide +kernel
theorem dX10_salesBy_0 : decode cX10_salesBy 0 = .ok (.iconst 0, 1) := by decide +kernel
theorem dX10_salesBy_1 : decode cX10_salesBy 1 = .ok (.istore_n 2, 1) := by decide +kernel
theorem dX10_salesBy_2 : decode cX10_salesBy 2 = .ok (.iconst 0, 1) := by decide +kernel
theorem dX10_salesBy_3 : decode cX10_salesBy 3 = .ok (.istore_n 3, 1) := by decide +kernel
theorem dX10_salesBy_4 : decode cX10_salesBy 4 = .ok (.iload_n 3, 1) := by decide +kernel
theorem dX10_salesBy_5 : decode cX10_salesBy 5 = .ok (.aload_n 0, 1) := by decide +kernel
theorem dX10_salesBy_6 : decode cX10_salesBy 6 = .ok (.getfield 232, 3) := by decide +kernel
theorem dX10_salesBy_9 : decode cX10_salesBy 9 = .ok (.if_icmp .ge 27, 3) := by decide +kernel
theorem dX10_salesBy_12 : decode cX10_salesBy 12 = .ok (.iload_n 2, 1) := by decide +kernel
theorem dX10_salesBy_13 : decode cX10_salesBy 13 = .ok (.aload_n 0, 1) := by decide +kernel
theorem dX10_salesBy_14 : decode cX10_salesBy 14 = .ok (.getfield 62, 3) := by decide +kernel
theorem dX10_salesBy_17 : decode cX10_salesBy 17 = .ok (.iload_n 3, 1) := by decide +kernel
theorem dX10_salesBy_18 : decode cX10_salesBy 18 = .ok (.iaload, 1) := by decide +kernel
theorem dX10_salesBy_19 : decode cX10_salesBy 19 = .ok (.iload_n 1, 1) := by decide +kernel
theorem dX10_salesBy_20 : decode cX10_salesBy 20 = .ok (.if_icmp .ne 7, 3) := by decide +kernel
theorem dX10_salesBy_23 : decode cX10_salesBy 23 = .ok (.iconst 1, 1) := by decide +kernel
theorem dX10_salesBy_24 : decode cX10_salesBy 24 = .ok (.goto 4, 3) := by decide +kernel
theorem dX10_salesBy_27 : decode cX10_salesBy 27 = .ok (.iconst 0, 1) := by decide +kernel
theorem dX10_salesBy_28 : decode cX10_salesBy 28 = .ok (.iadd, 1) := by decide +kernel
theorem dX10_salesBy_29 : decode cX10_salesBy 29 = .ok (.istore_n 2, 1) := by decide +kernel
theorem dX10_salesBy_30 : decode cX10_salesBy 30 = .ok (.iinc 3 1, 3) := by decide +kernel
theorem dX10_salesBy_33 : decode cX10_salesBy 33 = .ok (.goto (-29), 3) := by decide +kernel
theorem dX10_salesBy_36 : decode cX10_salesBy 36 = .ok (.iload_n 2, 1) := by decide +kernel
theorem dX10_salesBy_37 : decode cX10_salesBy 37 = .ok (.ireturn, 1) := by decide +kernel
theorem dX10_barredBy_0 : decode cX10_barredBy 0 = .ok (.iconst 0, 1) := by decide +kernel
theorem dX10_barredBy_1 : decode cX10_barredBy 1 = .ok (.istore_n 2, 1) := by decide +kernel
theorem dX10_barredBy_2 : decode cX10_barredBy 2 = .ok (.iconst 0, 1) := by decide +kernel
theorem dX10_barredBy_3 : decode cX10_barredBy 3 = .ok (.istore_n 3, 1) := by decide +kernel
theorem dX10_barredBy_4 : decode cX10_barredBy 4 = .ok (.iload_n 3, 1) := by decide +kernel
theorem dX10_barredBy_5 : decode cX10_barredBy 5 = .ok (.aload_n 0, 1) := by decide +kernel
theorem dX10_barredBy_6 : decode cX10_barredBy 6 = .ok (.getfield 232, 3) := by decide +kernel
theorem dX10_barredBy_9 : decode cX10_barredBy 9 = .ok (.if_icmp .ge 40, 3) := by decide +kernel
theorem dX10_barredBy_12 : decode cX10_barredBy 12 = .ok (.iload_n 2, 1) := by decide +kernel
theorem dX10_barredBy_13 : decode cX10_barredBy 13 = .ok (.aload_n 0, 1) := by decide +kernel
theorem dX10_barredBy_14 : decode cX10_barredBy 14 = .ok (.getfield 62, 3) := by decide +kernel
theorem dX10_barredBy_17 : decode cX10_barredBy 17 = .ok (.iload_n 3, 1) := by decide +kernel
theorem dX10_barredBy_18 : decode cX10_barredBy 18 = .ok (.iaload, 1) := by decide +kernel
theorem dX10_barredBy_19 : decode cX10_barredBy 19 = .ok (.iload_n 1, 1) := by decide +kernel
theorem dX10_barredBy_20 : decode cX10_barredBy 20 = .ok (.if_icmp .ne 20, 3) := by decide +kernel
theorem dX10_barredBy_23 : decode cX10_barredBy 23 = .ok (.aload_n 0, 1) := by decide +kernel
theorem dX10_barredBy_24 : decode cX10_barredBy 24 = .ok (.aload_n 0, 1) := by decide +kernel
theorem dX10_barredBy_25 : decode cX10_barredBy 25 = .ok (.getfield 59, 3) := by decide +kernel
theorem dX10_barredBy_28 : decode cX10_barredBy 28 = .ok (.iload_n 3, 1) := by decide +kernel
theorem dX10_barredBy_29 : decode cX10_barredBy 29 = .ok (.iaload, 1) := by decide +kernel
theorem dX10_barredBy_30 : decode cX10_barredBy 30 = .ok (.invokevirtual 209, 3) := by decide +kernel
theorem dX10_barredBy_33 : decode cX10_barredBy 33 = .ok (.ifCond .eq 7, 3) := by decide +kernel
theorem dX10_barredBy_36 : decode cX10_barredBy 36 = .ok (.iconst 1, 1) := by decide +kernel
theorem dX10_barredBy_37 : decode cX10_barredBy 37 = .ok (.goto 4, 3) := by decide +kernel
theorem dX10_barredBy_40 : decode cX10_barredBy 40 = .ok (.iconst 0, 1) := by decide +kernel
theorem dX10_barredBy_41 : decode cX10_barredBy 41 = .ok (.iadd, 1) := by decide +kernel
theorem dX10_barredBy_42 : decode cX10_barredBy 42 = .ok (.istore_n 2, 1) := by decide +kernel
theorem dX10_barredBy_43 : decode cX10_barredBy 43 = .ok (.iinc 3 1, 3) := by decide +kernel
theorem dX10_barredBy_46 : decode cX10_barredBy 46 = .ok (.goto (-42), 3) := by decide +kernel
theorem dX10_barredBy_49 : decode cX10_barredBy 49 = .ok (.iload_n 2, 1) := by decide +kernel
theorem dX10_barredBy_50 : decode cX10_barredBy 50 = .ok (.ireturn, 1) := by decide +kernel
theorem dX10_isHand_0 : decode cX10_isHand 0 = .ok (.iload_n 0, 1) := by decide +kernel
theorem dX10_isHand_1 : decode cX10_isHand 1 = .ok (.i2l, 1) := by decide +kernel
theorem dX10_isHand_2 : decode cX10_isHand 2 = .ok (.lconst 0, 1) := by decide +kernel
theorem dX10_isHand_3 : decode cX10_isHand 3 = .ok (.ldc2_w 404, 3) := by decide +kernel
theorem dX10_isHand_6 : decode cX10_isHand 6 = .ok (.invokestatic 149, 3) := by decide +kernel
theorem dX10_isHand_9 : decode cX10_isHand 9 = .ok (.ireturn, 1) := by decide +kernel
theorem dX10_source_0 : decode cX10_source 0 = .ok (.iload_n 1, 1) := by decide +kernel
theorem dX10_source_1 : decode cX10_source 1 = .ok (.invokestatic 406, 3) := by decide +kernel
theorem dX10_source_4 : decode cX10_source 4 = .ok (.ifCond .eq 13, 3) := by decide +kernel
theorem dX10_source_7 : decode cX10_source 7 = .ok (.iload_n 2, 1) := by decide +kernel
theorem dX10_source_8 : decode cX10_source 8 = .ok (.i2l, 1) := by decide +kernel
theorem dX10_source_9 : decode cX10_source 9 = .ok (.lconst 0, 1) := by decide +kernel
theorem dX10_source_10 : decode cX10_source 10 = .ok (.lconst 1, 1) := by decide +kernel
theorem dX10_source_11 : decode cX10_source 11 = .ok (.invokestatic 149, 3) := by decide +kernel
theorem dX10_source_14 : decode cX10_source 14 = .ok (.ifCond .ne 6, 3) := by decide +kernel
theorem dX10_source_17 : decode cX10_source 17 = .ok (.bipush (-2), 2) := by decide +kernel
theorem dX10_source_19 : decode cX10_source 19 = .ok (.ireturn, 1) := by decide +kernel
theorem dX10_source_20 : decode cX10_source 20 = .ok (.iload_n 2, 1) := by decide +kernel
theorem dX10_source_21 : decode cX10_source 21 = .ok (.ifCond .ne 11, 3) := by decide +kernel
theorem dX10_source_24 : decode cX10_source 24 = .ok (.aload_n 0, 1) := by decide +kernel
theorem dX10_source_25 : decode cX10_source 25 = .ok (.iload_n 1, 1) := by decide +kernel
theorem dX10_source_26 : decode cX10_source 26 = .ok (.invokevirtual 409, 3) := by decide +kernel
theorem dX10_source_29 : decode cX10_source 29 = .ok (.goto 8, 3) := by decide +kernel
theorem dX10_source_32 : decode cX10_source 32 = .ok (.aload_n 0, 1) := by decide +kernel
theorem dX10_source_33 : decode cX10_source 33 = .ok (.iload_n 1, 1) := by decide +kernel
theorem dX10_source_34 : decode cX10_source 34 = .ok (.invokevirtual 412, 3) := by decide +kernel
theorem dX10_source_37 : decode cX10_source 37 = .ok (.ireturn, 1) := by decide +kernel
theorem dX10_worst_0 : decode cX10_worst 0 = .ok (.iconst (-1), 1) := by decide +kernel
theorem dX10_worst_1 : decode cX10_worst 1 = .ok (.istore_n 1, 1) := by decide +kernel
theorem dX10_worst_2 : decode cX10_worst 2 = .ok (.iconst 0, 1) := by decide +kernel
theorem dX10_worst_3 : decode cX10_worst 3 = .ok (.istore_n 2, 1) := by decide +kernel
theorem dX10_worst_4 : decode cX10_worst 4 = .ok (.iload_n 2, 1) := by decide +kernel
theorem dX10_worst_5 : decode cX10_worst 5 = .ok (.bipush 10, 2) := by decide +kernel
theorem dX10_worst_7 : decode cX10_worst 7 = .ok (.if_icmp .ge 78, 3) := by decide +kernel
theorem dX10_worst_10 : decode cX10_worst 10 = .ok (.aload_n 0, 1) := by decide +kernel
theorem dX10_worst_11 : decode cX10_worst 11 = .ok (.iload_n 2, 1) := by decide +kernel
theorem dX10_worst_12 : decode cX10_worst 12 = .ok (.invokevirtual 409, 3) := by decide +kernel
theorem dX10_worst_15 : decode cX10_worst 15 = .ok (.istore_n 3, 1) := by decide +kernel
theorem dX10_worst_16 : decode cX10_worst 16 = .ok (.iload_n 3, 1) := by decide +kernel
theorem dX10_worst_17 : decode cX10_worst 17 = .ok (.ifCond .ne 6, 3) := by decide +kernel
theorem dX10_worst_20 : decode cX10_worst 20 = .ok (.goto 59, 3) := by decide +kernel
theorem dX10_worst_23 : decode cX10_worst 23 = .ok (.iload_n 1, 1) := by decide +kernel
theorem dX10_worst_24 : decode cX10_worst 24 = .ok (.iconst (-1), 1) := by decide +kernel
theorem dX10_worst_25 : decode cX10_worst 25 = .ok (.if_icmp .ne 8, 3) := by decide +kernel
theorem dX10_worst_28 : decode cX10_worst 28 = .ok (.iload_n 2, 1) := by decide +kernel
theorem dX10_worst_29 : decode cX10_worst 29 = .ok (.istore_n 1, 1) := by decide +kernel
theorem dX10_worst_30 : decode cX10_worst 30 = .ok (.goto 49, 3) := by decide +kernel
theorem dX10_worst_33 : decode cX10_worst 33 = .ok (.aload_n 0, 1) := by decide +kernel
theorem dX10_worst_34 : decode cX10_worst 34 = .ok (.iload_n 2, 1) := by decide +kernel
theorem dX10_worst_35 : decode cX10_worst 35 = .ok (.invokevirtual 412, 3) := by decide +kernel
theorem dX10_worst_38 : decode cX10_worst 38 = .ok (.aload_n 0, 1) := by decide +kernel
theorem dX10_worst_39 : decode cX10_worst 39 = .ok (.iload_n 1, 1) := by decide +kernel
theorem dX10_worst_40 : decode cX10_worst 40 = .ok (.invokevirtual 409, 3) := by decide +kernel
theorem dX10_worst_43 : decode cX10_worst 43 = .ok (.imul, 1) := by decide +kernel
theorem dX10_worst_44 : decode cX10_worst 44 = .ok (.aload_n 0, 1) := by decide +kernel
theorem dX10_worst_45 : decode cX10_worst 45 = .ok (.iload_n 1, 1) := by decide +kernel
theorem dX10_worst_46 : decode cX10_worst 46 = .ok (.invokevirtual 412, 3) := by decide +kernel
theorem dX10_worst_49 : decode cX10_worst 49 = .ok (.iload_n 3, 1) := by decide +kernel
theorem dX10_worst_50 : decode cX10_worst 50 = .ok (.imul, 1) := by decide +kernel
theorem dX10_worst_51 : decode cX10_worst 51 = .ok (.isub, 1) := by decide +kernel
theorem dX10_worst_52 : decode cX10_worst 52 = .ok (.istore 4, 2) := by decide +kernel
theorem dX10_worst_54 : decode cX10_worst 54 = .ok (.iload 4, 2) := by decide +kernel
theorem dX10_worst_56 : decode cX10_worst 56 = .ok (.ifCond .gt 17, 3) := by decide +kernel
theorem dX10_worst_59 : decode cX10_worst 59 = .ok (.iload 4, 2) := by decide +kernel
theorem dX10_worst_61 : decode cX10_worst 61 = .ok (.ifCond .ne 16, 3) := by decide +kernel
theorem dX10_worst_64 : decode cX10_worst 64 = .ok (.iload_n 3, 1) := by decide +kernel
theorem dX10_worst_65 : decode cX10_worst 65 = .ok (.aload_n 0, 1) := by decide +kernel
theorem dX10_worst_66 : decode cX10_worst 66 = .ok (.iload_n 1, 1) := by decide +kernel
theorem dX10_worst_67 : decode cX10_worst 67 = .ok (.invokevirtual 409, 3) := by decide +kernel
theorem dX10_worst_70 : decode cX10_worst 70 = .ok (.if_icmp .le 7, 3) := by decide +kernel
theorem dX10_worst_73 : decode cX10_worst 73 = .ok (.iload_n 2, 1) := by decide +kernel
theorem dX10_worst_74 : decode cX10_worst 74 = .ok (.goto 4, 3) := by decide +kernel
theorem dX10_worst_77 : decode cX10_worst 77 = .ok (.iload_n 1, 1) := by decide +kernel
theorem dX10_worst_78 : decode cX10_worst 78 = .ok (.istore_n 1, 1) := by decide +kernel
theorem dX10_worst_79 : decode cX10_worst 79 = .ok (.iinc 2 1, 3) := by decide +kernel
theorem dX10_worst_82 : decode cX10_worst 82 = .ok (.goto (-78), 3) := by decide +kernel
theorem dX10_worst_85 : decode cX10_worst 85 = .ok (.iload_n 1, 1) := by decide +kernel
theorem dX10_worst_86 : decode cX10_worst 86 = .ok (.ireturn, 1) := by decide +kernel
theorem dX10_farOf_0 : decode cX10_farOf 0 = .ok (.iconst 0, 1) := by decide +kernel
theorem dX10_farOf_1 : decode cX10_farOf 1 = .ok (.istore 5, 2) := by decide +kernel
theorem dX10_farOf_3 : decode cX10_farOf 3 = .ok (.iconst 0, 1) := by decide +kernel
theorem dX10_farOf_4 : decode cX10_farOf 4 = .ok (.istore 6, 2) := by decide +kernel
theorem dX10_farOf_6 : decode cX10_farOf 6 = .ok (.iload 6, 2) := by decide +kernel
theorem dX10_farOf_8 : decode cX10_farOf 8 = .ok (.iconst 3, 1) := by decide +kernel
theorem dX10_farOf_9 : decode cX10_farOf 9 = .ok (.if_icmp .ge 64, 3) := by decide +kernel
theorem dX10_farOf_12 : decode cX10_farOf 12 = .ok (.iload 4, 2) := by decide +kernel
theorem dX10_farOf_14 : decode cX10_farOf 14 = .ok (.aload_n 0, 1) := by decide +kernel
theorem dX10_farOf_15 : decode cX10_farOf 15 = .ok (.iload_n 1, 1) := by decide +kernel
theorem dX10_farOf_16 : decode cX10_farOf 16 = .ok (.iload 6, 2) := by decide +kernel
theorem dX10_farOf_18 : decode cX10_farOf 18 = .ok (.invokevirtual 183, 3) := by decide +kernel
theorem dX10_farOf_21 : decode cX10_farOf 21 = .ok (.imul, 1) := by decide +kernel
theorem dX10_farOf_22 : decode cX10_farOf 22 = .ok (.bipush 10, 2) := by decide +kernel
theorem dX10_farOf_24 : decode cX10_farOf 24 = .ok (.iload 4, 2) := by decide +kernel
theorem dX10_farOf_26 : decode cX10_farOf 26 = .ok (.isub, 1) := by decide +kernel
theorem dX10_farOf_27 : decode cX10_farOf 27 = .ok (.aload_n 0, 1) := by decide +kernel
theorem dX10_farOf_28 : decode cX10_farOf 28 = .ok (.iload_n 2, 1) := by decide +kernel
theorem dX10_farOf_29 : decode cX10_farOf 29 = .ok (.iload 6, 2) := by decide +kernel
theorem dX10_farOf_31 : decode cX10_farOf 31 = .ok (.invokevirtual 183, 3) := by decide +kernel
theorem dX10_farOf_34 : decode cX10_farOf 34 = .ok (.imul, 1) := by decide +kernel
theorem dX10_farOf_35 : decode cX10_farOf 35 = .ok (.iadd, 1) := by decide +kernel
theorem dX10_farOf_36 : decode cX10_farOf 36 = .ok (.bipush 10, 2) := by decide +kernel
theorem dX10_farOf_38 : decode cX10_farOf 38 = .ok (.idiv, 1) := by decide +kernel
theorem dX10_farOf_39 : decode cX10_farOf 39 = .ok (.aload_n 0, 1) := by decide +kernel
theorem dX10_farOf_40 : decode cX10_farOf 40 = .ok (.iload_n 3, 1) := by decide +kernel
theorem dX10_farOf_41 : decode cX10_farOf 41 = .ok (.iload 6, 2) := by decide +kernel
theorem dX10_farOf_43 : decode cX10_farOf 43 = .ok (.invokevirtual 183, 3) := by decide +kernel
theorem dX10_farOf_46 : decode cX10_farOf 46 = .ok (.isub, 1) := by decide +kernel
theorem dX10_farOf_47 : decode cX10_farOf 47 = .ok (.istore 7, 2) := by decide +kernel
theorem dX10_farOf_49 : decode cX10_farOf 49 = .ok (.iload 5, 2) := by decide +kernel
theorem dX10_farOf_51 : decode cX10_farOf 51 = .ok (.iload 7, 2) := by decide +kernel
theorem dX10_farOf_53 : decode cX10_farOf 53 = .ok (.ifCond .ge 9, 3) := by decide +kernel
theorem dX10_farOf_56 : decode cX10_farOf 56 = .ok (.iload 7, 2) := by decide +kernel
theorem dX10_farOf_58 : decode cX10_farOf 58 = .ok (.ineg, 1) := by decide +kernel
theorem dX10_farOf_59 : decode cX10_farOf 59 = .ok (.goto 5, 3) := by decide +kernel
theorem dX10_farOf_62 : decode cX10_farOf 62 = .ok (.iload 7, 2) := by decide +kernel
theorem dX10_farOf_64 : decode cX10_farOf 64 = .ok (.iadd, 1) := by decide +kernel
theorem dX10_farOf_65 : decode cX10_farOf 65 = .ok (.istore 5, 2) := by decide +kernel
theorem dX10_farOf_67 : decode cX10_farOf 67 = .ok (.iinc 6 1, 3) := by decide +kernel
theorem dX10_farOf_70 : decode cX10_farOf 70 = .ok (.goto (-64), 3) := by decide +kernel
theorem dX10_farOf_73 : decode cX10_farOf 73 = .ok (.iload 5, 2) := by decide +kernel
theorem dX10_farOf_75 : decode cX10_farOf 75 = .ok (.ireturn, 1) := by decide +kernel
theorem dX10_mix_0 : decode cX10_mix 0 = .ok (.aload_n 0, 1) := by decide +kernel
theorem dX10_mix_1 : decode cX10_mix 1 = .ok (.iload_n 1, 1) := by decide +kernel
theorem dX10_mix_2 : decode cX10_mix 2 = .ok (.invokevirtual 165, 3) := by decide +kernel
theorem dX10_mix_5 : decode cX10_mix 5 = .ok (.ifCond .eq 35, 3) := by decide +kernel
theorem dX10_mix_8 : decode cX10_mix 8 = .ok (.aload_n 0, 1) := by decide +kernel
theorem dX10_mix_9 : decode cX10_mix 9 = .ok (.iload_n 2, 1) := by decide +kernel
theorem dX10_mix_10 : decode cX10_mix 10 = .ok (.invokevirtual 165, 3) := by decide +kernel
theorem dX10_mix_13 : decode cX10_mix 13 = .ok (.ifCond .eq 27, 3) := by decide +kernel
theorem dX10_mix_16 : decode cX10_mix 16 = .ok (.iload_n 1, 1) := by decide +kernel
theorem dX10_mix_17 : decode cX10_mix 17 = .ok (.iload_n 2, 1) := by decide +kernel
theorem dX10_mix_18 : decode cX10_mix 18 = .ok (.if_icmp .eq 22, 3) := by decide +kernel
theorem dX10_mix_21 : decode cX10_mix 21 = .ok (.aload_n 0, 1) := by decide +kernel
theorem dX10_mix_22 : decode cX10_mix 22 = .ok (.iload_n 3, 1) := by decide +kernel
theorem dX10_mix_23 : decode cX10_mix 23 = .ok (.invokevirtual 165, 3) := by decide +kernel
theorem dX10_mix_26 : decode cX10_mix 26 = .ok (.ifCond .eq 14, 3) := by decide +kernel
theorem dX10_mix_29 : decode cX10_mix 29 = .ok (.iload 4, 2) := by decide +kernel
theorem dX10_mix_31 : decode cX10_mix 31 = .ok (.i2l, 1) := by decide +kernel
theorem dX10_mix_32 : decode cX10_mix 32 = .ok (.lconst 0, 1) := by decide +kernel
theorem dX10_mix_33 : decode cX10_mix 33 = .ok (.lconst 1, 1) := by decide +kernel
theorem dX10_mix_34 : decode cX10_mix 34 = .ok (.invokestatic 149, 3) := by decide +kernel
theorem dX10_mix_37 : decode cX10_mix 37 = .ok (.ifCond .ne 6, 3) := by decide +kernel
theorem dX10_mix_40 : decode cX10_mix 40 = .ok (.bipush (-2), 2) := by decide +kernel
theorem dX10_mix_42 : decode cX10_mix 42 = .ok (.ireturn, 1) := by decide +kernel
theorem dX10_mix_43 : decode cX10_mix 43 = .ok (.iconst 0, 1) := by decide +kernel
theorem dX10_mix_44 : decode cX10_mix 44 = .ok (.istore 5, 2) := by decide +kernel
theorem dX10_mix_46 : decode cX10_mix 46 = .ok (.iconst 1, 1) := by decide +kernel
theorem dX10_mix_47 : decode cX10_mix 47 = .ok (.istore 6, 2) := by decide +kernel
theorem dX10_mix_49 : decode cX10_mix 49 = .ok (.iload 6, 2) := by decide +kernel
theorem dX10_mix_51 : decode cX10_mix 51 = .ok (.bipush 11, 2) := by decide +kernel
theorem dX10_mix_53 : decode cX10_mix 53 = .ok (.if_icmp .ge 39, 3) := by decide +kernel
theorem dX10_mix_56 : decode cX10_mix 56 = .ok (.aload_n 0, 1) := by decide +kernel
theorem dX10_mix_57 : decode cX10_mix 57 = .ok (.iload_n 1, 1) := by decide +kernel
theorem dX10_mix_58 : decode cX10_mix 58 = .ok (.iload_n 2, 1) := by decide +kernel
theorem dX10_mix_59 : decode cX10_mix 59 = .ok (.iload_n 3, 1) := by decide +kernel
theorem dX10_mix_60 : decode cX10_mix 60 = .ok (.iload 6, 2) := by decide +kernel
theorem dX10_mix_62 : decode cX10_mix 62 = .ok (.invokevirtual 415, 3) := by decide +kernel
theorem dX10_mix_65 : decode cX10_mix 65 = .ok (.aload_n 0, 1) := by decide +kernel
theorem dX10_mix_66 : decode cX10_mix 66 = .ok (.iload_n 1, 1) := by decide +kernel
theorem dX10_mix_67 : decode cX10_mix 67 = .ok (.iload_n 2, 1) := by decide +kernel
theorem dX10_mix_68 : decode cX10_mix 68 = .ok (.iload_n 3, 1) := by decide +kernel
theorem dX10_mix_69 : decode cX10_mix 69 = .ok (.iload 5, 2) := by decide +kernel
theorem dX10_mix_71 : decode cX10_mix 71 = .ok (.invokevirtual 415, 3) := by decide +kernel
theorem dX10_mix_74 : decode cX10_mix 74 = .ok (.if_icmp .ge 8, 3) := by decide +kernel
theorem dX10_mix_77 : decode cX10_mix 77 = .ok (.iload 6, 2) := by decide +kernel
theorem dX10_mix_79 : decode cX10_mix 79 = .ok (.goto 5, 3) := by decide +kernel
theorem dX10_mix_82 : decode cX10_mix 82 = .ok (.iload 5, 2) := by decide +kernel
theorem dX10_mix_84 : decode cX10_mix 84 = .ok (.istore 5, 2) := by decide +kernel
theorem dX10_mix_86 : decode cX10_mix 86 = .ok (.iinc 6 1, 3) := by decide +kernel
theorem dX10_mix_89 : decode cX10_mix 89 = .ok (.goto (-40), 3) := by decide +kernel
theorem dX10_mix_92 : decode cX10_mix 92 = .ok (.iload 4, 2) := by decide +kernel
theorem dX10_mix_94 : decode cX10_mix 94 = .ok (.ifCond .ne 8, 3) := by decide +kernel
theorem dX10_mix_97 : decode cX10_mix 97 = .ok (.iload 5, 2) := by decide +kernel
theorem dX10_mix_99 : decode cX10_mix 99 = .ok (.goto 12, 3) := by decide +kernel
theorem dX10_mix_102 : decode cX10_mix 102 = .ok (.aload_n 0, 1) := by decide +kernel
theorem dX10_mix_103 : decode cX10_mix 103 = .ok (.iload_n 1, 1) := by decide +kernel
theorem dX10_mix_104 : decode cX10_mix 104 = .ok (.iload_n 2, 1) := by decide +kernel
theorem dX10_mix_105 : decode cX10_mix 105 = .ok (.iload_n 3, 1) := by decide +kernel
theorem dX10_mix_106 : decode cX10_mix 106 = .ok (.iload 5, 2) := by decide +kernel
theorem dX10_mix_108 : decode cX10_mix 108 = .ok (.invokevirtual 415, 3) := by decide +kernel
theorem dX10_mix_111 : decode cX10_mix 111 = .ok (.ireturn, 1) := by decide +kernel
theorem dX10_isTongue_0 : decode cX10_isTongue 0 = .ok (.iload_n 0, 1) := by decide +kernel
theorem dX10_isTongue_1 : decode cX10_isTongue 1 = .ok (.i2l, 1) := by decide +kernel
theorem dX10_isTongue_2 : decode cX10_isTongue 2 = .ok (.lconst 0, 1) := by decide +kernel
theorem dX10_isTongue_3 : decode cX10_isTongue 3 = .ok (.ldc2_w 177, 3) := by decide +kernel
theorem dX10_isTongue_6 : decode cX10_isTongue 6 = .ok (.invokestatic 149, 3) := by decide +kernel
theorem dX10_isTongue_9 : decode cX10_isTongue 9 = .ok (.ireturn, 1) := by decide +kernel
theorem dX10_said_0 : decode cX10_said 0 = .ok (.iload_n 1, 1) := by decide +kernel
theorem dX10_said_1 : decode cX10_said 1 = .ok (.invokestatic 419, 3) := by decide +kernel
theorem dX10_said_4 : decode cX10_said 4 = .ok (.ifCond .eq 30, 3) := by decide +kernel
theorem dX10_said_7 : decode cX10_said 7 = .ok (.aload_n 0, 1) := by decide +kernel
theorem dX10_said_8 : decode cX10_said 8 = .ok (.iload_n 2, 1) := by decide +kernel
theorem dX10_said_9 : decode cX10_said 9 = .ok (.invokevirtual 186, 3) := by decide +kernel
theorem dX10_said_12 : decode cX10_said 12 = .ok (.ifCond .eq 22, 3) := by decide +kernel
theorem dX10_said_15 : decode cX10_said 15 = .ok (.iload_n 3, 1) := by decide +kernel
theorem dX10_said_16 : decode cX10_said 16 = .ok (.i2l, 1) := by decide +kernel
theorem dX10_said_17 : decode cX10_said 17 = .ok (.lconst 0, 1) := by decide +kernel
theorem dX10_said_18 : decode cX10_said 18 = .ok (.lconst 1, 1) := by decide +kernel
theorem dX10_said_19 : decode cX10_said 19 = .ok (.invokestatic 149, 3) := by decide +kernel
theorem dX10_said_22 : decode cX10_said 22 = .ok (.ifCond .eq 12, 3) := by decide +kernel
theorem dX10_said_25 : decode cX10_said 25 = .ok (.aload_n 0, 1) := by decide +kernel
theorem dX10_said_26 : decode cX10_said 26 = .ok (.iload 4, 2) := by decide +kernel
theorem dX10_said_28 : decode cX10_said 28 = .ok (.invokevirtual 165, 3) := by decide +kernel
theorem dX10_said_31 : decode cX10_said 31 = .ok (.ifCond .ne 6, 3) := by decide +kernel
theorem dX10_said_34 : decode cX10_said 34 = .ok (.bipush (-2), 2) := by decide +kernel
theorem dX10_said_36 : decode cX10_said 36 = .ok (.ireturn, 1) := by decide +kernel
theorem dX10_said_37 : decode cX10_said 37 = .ok (.aload_n 0, 1) := by decide +kernel
theorem dX10_said_38 : decode cX10_said 38 = .ok (.getfield 74, 3) := by decide +kernel
theorem dX10_said_41 : decode cX10_said 41 = .ok (.iload_n 1, 1) := by decide +kernel
theorem dX10_said_42 : decode cX10_said 42 = .ok (.iaload, 1) := by decide +kernel
theorem dX10_said_43 : decode cX10_said 43 = .ok (.bipush 12, 2) := by decide +kernel
theorem dX10_said_45 : decode cX10_said 45 = .ok (.if_icmp .ne 6, 3) := by decide +kernel
theorem dX10_said_48 : decode cX10_said 48 = .ok (.bipush (-4), 2) := by decide +kernel
theorem dX10_said_50 : decode cX10_said 50 = .ok (.ireturn, 1) := by decide +kernel
theorem dX10_said_51 : decode cX10_said 51 = .ok (.aload_n 0, 1) := by decide +kernel
theorem dX10_said_52 : decode cX10_said 52 = .ok (.getfield 77, 3) := by decide +kernel
theorem dX10_said_55 : decode cX10_said 55 = .ok (.bipush 12, 2) := by decide +kernel
theorem dX10_said_57 : decode cX10_said 57 = .ok (.iload_n 1, 1) := by decide +kernel
theorem dX10_said_58 : decode cX10_said 58 = .ok (.imul, 1) := by decide +kernel
theorem dX10_said_59 : decode cX10_said 59 = .ok (.aload_n 0, 1) := by decide +kernel
theorem dX10_said_60 : decode cX10_said 60 = .ok (.getfield 74, 3) := by decide +kernel
theorem dX10_said_63 : decode cX10_said 63 = .ok (.iload_n 1, 1) := by decide +kernel
theorem dX10_said_64 : decode cX10_said 64 = .ok (.iaload, 1) := by decide +kernel
theorem dX10_said_65 : decode cX10_said 65 = .ok (.iadd, 1) := by decide +kernel
theorem dX10_said_66 : decode cX10_said 66 = .ok (.iload_n 2, 1) := by decide +kernel
theorem dX10_said_67 : decode cX10_said 67 = .ok (.iastore, 1) := by decide +kernel
theorem dX10_said_68 : decode cX10_said 68 = .ok (.aload_n 0, 1) := by decide +kernel
theorem dX10_said_69 : decode cX10_said 69 = .ok (.getfield 80, 3) := by decide +kernel
theorem dX10_said_72 : decode cX10_said 72 = .ok (.bipush 12, 2) := by decide +kernel
theorem dX10_said_74 : decode cX10_said 74 = .ok (.iload_n 1, 1) := by decide +kernel
theorem dX10_said_75 : decode cX10_said 75 = .ok (.imul, 1) := by decide +kernel
theorem dX10_said_76 : decode cX10_said 76 = .ok (.aload_n 0, 1) := by decide +kernel
theorem dX10_said_77 : decode cX10_said 77 = .ok (.getfield 74, 3) := by decide +kernel
theorem dX10_said_80 : decode cX10_said 80 = .ok (.iload_n 1, 1) := by decide +kernel
theorem dX10_said_81 : decode cX10_said 81 = .ok (.iaload, 1) := by decide +kernel
theorem dX10_said_82 : decode cX10_said 82 = .ok (.iadd, 1) := by decide +kernel
theorem dX10_said_83 : decode cX10_said 83 = .ok (.iload_n 3, 1) := by decide +kernel
theorem dX10_said_84 : decode cX10_said 84 = .ok (.iastore, 1) := by decide +kernel
theorem dX10_said_85 : decode cX10_said 85 = .ok (.aload_n 0, 1) := by decide +kernel
theorem dX10_said_86 : decode cX10_said 86 = .ok (.getfield 83, 3) := by decide +kernel
theorem dX10_said_89 : decode cX10_said 89 = .ok (.bipush 12, 2) := by decide +kernel
theorem dX10_said_91 : decode cX10_said 91 = .ok (.iload_n 1, 1) := by decide +kernel
theorem dX10_said_92 : decode cX10_said 92 = .ok (.imul, 1) := by decide +kernel
theorem dX10_said_93 : decode cX10_said 93 = .ok (.aload_n 0, 1) := by decide +kernel
theorem dX10_said_94 : decode cX10_said 94 = .ok (.getfield 74, 3) := by decide +kernel
theorem dX10_said_97 : decode cX10_said 97 = .ok (.iload_n 1, 1) := by decide +kernel
theorem dX10_said_98 : decode cX10_said 98 = .ok (.iaload, 1) := by decide +kernel
theorem dX10_said_99 : decode cX10_said 99 = .ok (.iadd, 1) := by decide +kernel
theorem dX10_said_100 : decode cX10_said 100 = .ok (.iload 4, 2) := by decide +kernel
theorem dX10_said_102 : decode cX10_said 102 = .ok (.iastore, 1) := by decide +kernel
theorem dX10_said_103 : decode cX10_said 103 = .ok (.aload_n 0, 1) := by decide +kernel
theorem dX10_said_104 : decode cX10_said 104 = .ok (.getfield 74, 3) := by decide +kernel
theorem dX10_said_107 : decode cX10_said 107 = .ok (.iload_n 1, 1) := by decide +kernel
theorem dX10_said_108 : decode cX10_said 108 = .ok (.dup2, 1) := by decide +kernel
theorem dX10_said_109 : decode cX10_said 109 = .ok (.iaload, 1) := by decide +kernel
theorem dX10_said_110 : decode cX10_said 110 = .ok (.iconst 1, 1) := by decide +kernel
theorem dX10_said_111 : decode cX10_said 111 = .ok (.iadd, 1) := by decide +kernel
theorem dX10_said_112 : decode cX10_said 112 = .ok (.iastore, 1) := by decide +kernel
theorem dX10_said_113 : decode cX10_said 113 = .ok (.aload_n 0, 1) := by decide +kernel
theorem dX10_said_114 : decode cX10_said 114 = .ok (.getfield 74, 3) := by decide +kernel
theorem dX10_said_117 : decode cX10_said 117 = .ok (.iload_n 1, 1) := by decide +kernel
theorem dX10_said_118 : decode cX10_said 118 = .ok (.iaload, 1) := by decide +kernel
theorem dX10_said_119 : decode cX10_said 119 = .ok (.ireturn, 1) := by decide +kernel
theorem dX10_withinOf_0 : decode cX10_withinOf 0 = .ok (.aload_n 0, 1) := by decide +kernel
theorem dX10_withinOf_1 : decode cX10_withinOf 1 = .ok (.getfield 47, 3) := by decide +kernel
theorem dX10_withinOf_4 : decode cX10_withinOf 4 = .ok (.iload_n 1, 1) := by decide +kernel
theorem dX10_withinOf_5 : decode cX10_withinOf 5 = .ok (.iaload, 1) := by decide +kernel
theorem dX10_withinOf_6 : decode cX10_withinOf 6 = .ok (.iconst 1, 1) := by decide +kernel
theorem dX10_withinOf_7 : decode cX10_withinOf 7 = .ok (.if_icmp .eq 13, 3) := by decide +kernel
theorem dX10_withinOf_10 : decode cX10_withinOf 10 = .ok (.aload_n 0, 1) := by decide +kernel
theorem dX10_withinOf_11 : decode cX10_withinOf 11 = .ok (.getfield 47, 3) := by decide +kernel
theorem dX10_withinOf_14 : decode cX10_withinOf 14 = .ok (.iload_n 1, 1) := by decide +kernel
theorem dX10_withinOf_15 : decode cX10_withinOf 15 = .ok (.iaload, 1) := by decide +kernel
theorem dX10_withinOf_16 : decode cX10_withinOf 16 = .ok (.iconst 3, 1) := by decide +kernel
theorem dX10_withinOf_17 : decode cX10_withinOf 17 = .ok (.if_icmp .ne 12, 3) := by decide +kernel
theorem dX10_withinOf_20 : decode cX10_withinOf 20 = .ok (.aload_n 0, 1) := by decide +kernel
theorem dX10_withinOf_21 : decode cX10_withinOf 21 = .ok (.getfield 50, 3) := by decide +kernel
theorem dX10_withinOf_24 : decode cX10_withinOf 24 = .ok (.iload_n 1, 1) := by decide +kernel
theorem dX10_withinOf_25 : decode cX10_withinOf 25 = .ok (.iaload, 1) := by decide +kernel
theorem dX10_withinOf_26 : decode cX10_withinOf 26 = .ok (.goto 9, 3) := by decide +kernel
theorem dX10_withinOf_29 : decode cX10_withinOf 29 = .ok (.aload_n 0, 1) := by decide +kernel
theorem dX10_withinOf_30 : decode cX10_withinOf 30 = .ok (.getfield 53, 3) := by decide +kernel
theorem dX10_withinOf_33 : decode cX10_withinOf 33 = .ok (.iload_n 1, 1) := by decide +kernel
theorem dX10_withinOf_34 : decode cX10_withinOf 34 = .ok (.iaload, 1) := by decide +kernel
theorem dX10_withinOf_35 : decode cX10_withinOf 35 = .ok (.ireturn, 1) := by decide +kernel
theorem dX10_tongue_0 : decode cX10_tongue 0 = .ok (.iload_n 1, 1) := by decide +kernel
theorem dX10_tongue_1 : decode cX10_tongue 1 = .ok (.invokestatic 419, 3) := by decide +kernel
theorem dX10_tongue_4 : decode cX10_tongue 4 = .ok (.ifCond .eq 15, 3) := by decide +kernel
theorem dX10_tongue_7 : decode cX10_tongue 7 = .ok (.iload_n 2, 1) := by decide +kernel
theorem dX10_tongue_8 : decode cX10_tongue 8 = .ok (.i2l, 1) := by decide +kernel
theorem dX10_tongue_9 : decode cX10_tongue 9 = .ok (.lconst 0, 1) := by decide +kernel
theorem dX10_tongue_10 : decode cX10_tongue 10 = .ok (.ldc2_w 170, 3) := by decide +kernel
theorem dX10_tongue_13 : decode cX10_tongue 13 = .ok (.invokestatic 149, 3) := by decide +kernel
theorem dX10_tongue_16 : decode cX10_tongue 16 = .ok (.ifCond .ne 6, 3) := by decide +kernel
theorem dX10_tongue_19 : decode cX10_tongue 19 = .ok (.bipush (-2), 2) := by decide +kernel
theorem dX10_tongue_21 : decode cX10_tongue 21 = .ok (.ireturn, 1) := by decide +kernel
theorem dX10_tongue_22 : decode cX10_tongue 22 = .ok (.iconst 0, 1) := by decide +kernel
theorem dX10_tongue_23 : decode cX10_tongue 23 = .ok (.istore_n 3, 1) := by decide +kernel
theorem dX10_tongue_24 : decode cX10_tongue 24 = .ok (.iconst 0, 1) := by decide +kernel
theorem dX10_tongue_25 : decode cX10_tongue 25 = .ok (.istore 4, 2) := by decide +kernel
theorem dX10_tongue_27 : decode cX10_tongue 27 = .ok (.iconst 0, 1) := by decide +kernel
theorem dX10_tongue_28 : decode cX10_tongue 28 = .ok (.istore 5, 2) := by decide +kernel
theorem dX10_tongue_30 : decode cX10_tongue 30 = .ok (.iconst 0, 1) := by decide +kernel
theorem dX10_tongue_31 : decode cX10_tongue 31 = .ok (.istore 6, 2) := by decide +kernel
theorem dX10_tongue_33 : decode cX10_tongue 33 = .ok (.bipush 12, 2) := by decide +kernel
theorem dX10_tongue_35 : decode cX10_tongue 35 = .ok (.iload_n 1, 1) := by decide +kernel
theorem dX10_tongue_36 : decode cX10_tongue 36 = .ok (.imul, 1) := by decide +kernel
theorem dX10_tongue_37 : decode cX10_tongue 37 = .ok (.istore 7, 2) := by decide +kernel
theorem dX10_tongue_39 : decode cX10_tongue 39 = .ok (.iload 7, 2) := by decide +kernel
theorem dX10_tongue_41 : decode cX10_tongue 41 = .ok (.bipush 12, 2) := by decide +kernel
theorem dX10_tongue_43 : decode cX10_tongue 43 = .ok (.iload_n 1, 1) := by decide +kernel
theorem dX10_tongue_44 : decode cX10_tongue 44 = .ok (.imul, 1) := by decide +kernel
theorem dX10_tongue_45 : decode cX10_tongue 45 = .ok (.aload_n 0, 1) := by decide +kernel
theorem dX10_tongue_46 : decode cX10_tongue 46 = .ok (.getfield 74, 3) := by decide +kernel
theorem dX10_tongue_49 : decode cX10_tongue 49 = .ok (.iload_n 1, 1) := by decide +kernel
theorem dX10_tongue_50 : decode cX10_tongue 50 = .ok (.iaload, 1) := by decide +kernel
theorem dX10_tongue_51 : decode cX10_tongue 51 = .ok (.iadd, 1) := by decide +kernel
theorem dX10_tongue_52 : decode cX10_tongue 52 = .ok (.if_icmp .ge 104, 3) := by decide +kernel
theorem dX10_tongue_55 : decode cX10_tongue 55 = .ok (.aload_n 0, 1) := by decide +kernel
theorem dX10_tongue_56 : decode cX10_tongue 56 = .ok (.getfield 77, 3) := by decide +kernel
theorem dX10_tongue_59 : decode cX10_tongue 59 = .ok (.iload 7, 2) := by decide +kernel
theorem dX10_tongue_61 : decode cX10_tongue 61 = .ok (.iaload, 1) := by decide +kernel
theorem dX10_tongue_62 : decode cX10_tongue 62 = .ok (.istore 8, 2) := by decide +kernel
theorem dX10_tongue_64 : decode cX10_tongue 64 = .ok (.aload_n 0, 1) := by decide +kernel
theorem dX10_tongue_65 : decode cX10_tongue 65 = .ok (.getfield 80, 3) := by decide +kernel
theorem dX10_tongue_68 : decode cX10_tongue 68 = .ok (.iload 7, 2) := by decide +kernel
theorem dX10_tongue_70 : decode cX10_tongue 70 = .ok (.iaload, 1) := by decide +kernel
theorem dX10_tongue_71 : decode cX10_tongue 71 = .ok (.ifCond .ne 33, 3) := by decide +kernel
theorem dX10_tongue_74 : decode cX10_tongue 74 = .ok (.iinc 4 1, 3) := by decide +kernel
theorem dX10_tongue_77 : decode cX10_tongue 77 = .ok (.iload_n 3, 1) := by decide +kernel
theorem dX10_tongue_78 : decode cX10_tongue 78 = .ok (.aload_n 0, 1) := by decide +kernel
theorem dX10_tongue_79 : decode cX10_tongue 79 = .ok (.getfield 83, 3) := by decide +kernel
theorem dX10_tongue_82 : decode cX10_tongue 82 = .ok (.iload 7, 2) := by decide +kernel
theorem dX10_tongue_84 : decode cX10_tongue 84 = .ok (.iaload, 1) := by decide +kernel
theorem dX10_tongue_85 : decode cX10_tongue 85 = .ok (.aload_n 0, 1) := by decide +kernel
theorem dX10_tongue_86 : decode cX10_tongue 86 = .ok (.iload 8, 2) := by decide +kernel
theorem dX10_tongue_88 : decode cX10_tongue 88 = .ok (.invokevirtual 422, 3) := by decide +kernel
theorem dX10_tongue_91 : decode cX10_tongue 91 = .ok (.if_icmp .ne 7, 3) := by decide +kernel
theorem dX10_tongue_94 : decode cX10_tongue 94 = .ok (.iconst 1, 1) := by decide +kernel
theorem dX10_tongue_95 : decode cX10_tongue 95 = .ok (.goto 4, 3) := by decide +kernel
theorem dX10_tongue_98 : decode cX10_tongue 98 = .ok (.iconst 0, 1) := by decide +kernel
theorem dX10_tongue_99 : decode cX10_tongue 99 = .ok (.iadd, 1) := by decide +kernel
theorem dX10_tongue_100 : decode cX10_tongue 100 = .ok (.istore_n 3, 1) := by decide +kernel
theorem dX10_tongue_101 : decode cX10_tongue 101 = .ok (.goto 49, 3) := by decide +kernel
theorem dX10_tongue_104 : decode cX10_tongue 104 = .ok (.aload_n 0, 1) := by decide +kernel
theorem dX10_tongue_105 : decode cX10_tongue 105 = .ok (.iload 8, 2) := by decide +kernel
theorem dX10_tongue_107 : decode cX10_tongue 107 = .ok (.invokevirtual 422, 3) := by decide +kernel
theorem dX10_tongue_110 : decode cX10_tongue 110 = .ok (.aload_n 0, 1) := by decide +kernel
theorem dX10_tongue_111 : decode cX10_tongue 111 = .ok (.getfield 50, 3) := by decide +kernel
theorem dX10_tongue_114 : decode cX10_tongue 114 = .ok (.iload 8, 2) := by decide +kernel
theorem dX10_tongue_116 : decode cX10_tongue 116 = .ok (.iaload, 1) := by decide +kernel
theorem dX10_tongue_117 : decode cX10_tongue 117 = .ok (.if_icmp .eq 33, 3) := by decide +kernel
theorem dX10_tongue_120 : decode cX10_tongue 120 = .ok (.iinc 6 1, 3) := by decide +kernel
theorem dX10_tongue_123 : decode cX10_tongue 123 = .ok (.iload 5, 2) := by decide +kernel
theorem dX10_tongue_125 : decode cX10_tongue 125 = .ok (.aload_n 0, 1) := by decide +kernel
theorem dX10_tongue_126 : decode cX10_tongue 126 = .ok (.getfield 83, 3) := by decide +kernel
theorem dX10_tongue_129 : decode cX10_tongue 129 = .ok (.iload 7, 2) := by decide +kernel
theorem dX10_tongue_131 : decode cX10_tongue 131 = .ok (.iaload, 1) := by decide +kernel
theorem dX10_tongue_132 : decode cX10_tongue 132 = .ok (.aload_n 0, 1) := by decide +kernel
theorem dX10_tongue_133 : decode cX10_tongue 133 = .ok (.getfield 50, 3) := by decide +kernel
theorem dX10_tongue_136 : decode cX10_tongue 136 = .ok (.iload 8, 2) := by decide +kernel
theorem dX10_tongue_138 : decode cX10_tongue 138 = .ok (.iaload, 1) := by decide +kernel
theorem dX10_tongue_139 : decode cX10_tongue 139 = .ok (.if_icmp .ne 7, 3) := by decide +kernel
theorem dX10_tongue_142 : decode cX10_tongue 142 = .ok (.iconst 1, 1) := by decide +kernel
theorem dX10_tongue_143 : decode cX10_tongue 143 = .ok (.goto 4, 3) := by decide +kernel
theorem dX10_tongue_146 : decode cX10_tongue 146 = .ok (.iconst 0, 1) := by decide +kernel
theorem dX10_tongue_147 : decode cX10_tongue 147 = .ok (.iadd, 1) := by decide +kernel
theorem dX10_tongue_148 : decode cX10_tongue 148 = .ok (.istore 5, 2) := by decide +kernel
theorem dX10_tongue_150 : decode cX10_tongue 150 = .ok (.iinc 7 1, 3) := by decide +kernel
theorem dX10_tongue_153 : decode cX10_tongue 153 = .ok (.goto (-114), 3) := by decide +kernel
theorem dX10_tongue_156 : decode cX10_tongue 156 = .ok (.iload_n 2, 1) := by decide +kernel
theorem dX10_tongue_157 : decode cX10_tongue 157 = .ok (.ifCond .ne 7, 3) := by decide +kernel
theorem dX10_tongue_160 : decode cX10_tongue 160 = .ok (.iload_n 3, 1) := by decide +kernel
theorem dX10_tongue_161 : decode cX10_tongue 161 = .ok (.goto 25, 3) := by decide +kernel
theorem dX10_tongue_164 : decode cX10_tongue 164 = .ok (.iload_n 2, 1) := by decide +kernel
theorem dX10_tongue_165 : decode cX10_tongue 165 = .ok (.iconst 1, 1) := by decide +kernel
theorem dX10_tongue_166 : decode cX10_tongue 166 = .ok (.if_icmp .ne 8, 3) := by decide +kernel
theorem dX10_tongue_169 : decode cX10_tongue 169 = .ok (.iload 4, 2) := by decide +kernel
theorem dX10_tongue_171 : decode cX10_tongue 171 = .ok (.goto 15, 3) := by decide +kernel
theorem dX10_tongue_174 : decode cX10_tongue 174 = .ok (.iload_n 2, 1) := by decide +kernel
theorem dX10_tongue_175 : decode cX10_tongue 175 = .ok (.iconst 2, 1) := by decide +kernel
theorem dX10_tongue_176 : decode cX10_tongue 176 = .ok (.if_icmp .ne 8, 3) := by decide +kernel
theorem dX10_tongue_179 : decode cX10_tongue 179 = .ok (.iload 5, 2) := by decide +kernel
theorem dX10_tongue_181 : decode cX10_tongue 181 = .ok (.goto 5, 3) := by decide +kernel
theorem dX10_tongue_184 : decode cX10_tongue 184 = .ok (.iload 6, 2) := by decide +kernel
theorem dX10_tongue_186 : decode cX10_tongue 186 = .ok (.ireturn, 1) := by decide +kernel
theorem dX10_opened_0 : decode cX10_opened 0 = .ok (.iload_n 1, 1) := by decide +kernel
theorem dX10_opened_1 : decode cX10_opened 1 = .ok (.i2l, 1) := by decide +kernel
theorem dX10_opened_2 : decode cX10_opened 2 = .ok (.lconst 0, 1) := by decide +kernel
theorem dX10_opened_3 : decode cX10_opened 3 = .ok (.ldc2_w 157, 3) := by decide +kernel
theorem dX10_opened_6 : decode cX10_opened 6 = .ok (.invokestatic 149, 3) := by decide +kernel
theorem dX10_opened_9 : decode cX10_opened 9 = .ok (.ifCond .eq 15, 3) := by decide +kernel
theorem dX10_opened_12 : decode cX10_opened 12 = .ok (.iload_n 2, 1) := by decide +kernel
theorem dX10_opened_13 : decode cX10_opened 13 = .ok (.i2l, 1) := by decide +kernel
theorem dX10_opened_14 : decode cX10_opened 14 = .ok (.lconst 0, 1) := by decide +kernel
theorem dX10_opened_15 : decode cX10_opened 15 = .ok (.ldc2_w 168, 3) := by decide +kernel
theorem dX10_opened_18 : decode cX10_opened 18 = .ok (.invokestatic 149, 3) := by decide +kernel
theorem dX10_opened_21 : decode cX10_opened 21 = .ok (.ifCond .ne 6, 3) := by decide +kernel
theorem dX10_opened_24 : decode cX10_opened 24 = .ok (.bipush (-2), 2) := by decide +kernel
theorem dX10_opened_26 : decode cX10_opened 26 = .ok (.ireturn, 1) := by decide +kernel
theorem dX10_opened_27 : decode cX10_opened 27 = .ok (.aload_n 0, 1) := by decide +kernel
theorem dX10_opened_28 : decode cX10_opened 28 = .ok (.getfield 174, 3) := by decide +kernel
theorem dX10_opened_31 : decode cX10_opened 31 = .ok (.bipush 10, 2) := by decide +kernel
theorem dX10_opened_33 : decode cX10_opened 33 = .ok (.if_icmp .ge 10, 3) := by decide +kernel
theorem dX10_opened_36 : decode cX10_opened 36 = .ok (.aload_n 0, 1) := by decide +kernel
theorem dX10_opened_37 : decode cX10_opened 37 = .ok (.getfield 174, 3) := by decide +kernel
theorem dX10_opened_40 : decode cX10_opened 40 = .ok (.goto 5, 3) := by decide +kernel
theorem dX10_opened_43 : decode cX10_opened 43 = .ok (.bipush 10, 2) := by decide +kernel
theorem dX10_opened_45 : decode cX10_opened 45 = .ok (.istore_n 3, 1) := by decide +kernel
theorem dX10_opened_46 : decode cX10_opened 46 = .ok (.iconst 0, 1) := by decide +kernel
theorem dX10_opened_47 : decode cX10_opened 47 = .ok (.istore 4, 2) := by decide +kernel
theorem dX10_opened_49 : decode cX10_opened 49 = .ok (.iload 4, 2) := by decide +kernel
theorem dX10_opened_51 : decode cX10_opened 51 = .ok (.iload_n 3, 1) := by decide +kernel
theorem dX10_opened_52 : decode cX10_opened 52 = .ok (.if_icmp .ge 35, 3) := by decide +kernel
theorem dX10_opened_55 : decode cX10_opened 55 = .ok (.aload_n 0, 1) := by decide +kernel
theorem dX10_opened_56 : decode cX10_opened 56 = .ok (.getfield 86, 3) := by decide +kernel
theorem dX10_opened_59 : decode cX10_opened 59 = .ok (.iload 4, 2) := by decide +kernel
theorem dX10_opened_61 : decode cX10_opened 61 = .ok (.aload_n 0, 1) := by decide +kernel
theorem dX10_opened_62 : decode cX10_opened 62 = .ok (.iload 4, 2) := by decide +kernel
theorem dX10_opened_64 : decode cX10_opened 64 = .ok (.invokevirtual 221, 3) := by decide +kernel
theorem dX10_opened_67 : decode cX10_opened 67 = .ok (.iastore, 1) := by decide +kernel
theorem dX10_opened_68 : decode cX10_opened 68 = .ok (.aload_n 0, 1) := by decide +kernel
theorem dX10_opened_69 : decode cX10_opened 69 = .ok (.getfield 89, 3) := by decide +kernel
theorem dX10_opened_72 : decode cX10_opened 72 = .ok (.iload 4, 2) := by decide +kernel
theorem dX10_opened_74 : decode cX10_opened 74 = .ok (.aload_n 0, 1) := by decide +kernel
theorem dX10_opened_75 : decode cX10_opened 75 = .ok (.iload 4, 2) := by decide +kernel
theorem dX10_opened_77 : decode cX10_opened 77 = .ok (.invokevirtual 227, 3) := by decide +kernel
theorem dX10_opened_80 : decode cX10_opened 80 = .ok (.iastore, 1) := by decide +kernel
theorem dX10_opened_81 : decode cX10_opened 81 = .ok (.iinc 4 1, 3) := by decide +kernel
theorem dX10_opened_84 : decode cX10_opened 84 = .ok (.goto (-35), 3) := by decide +kernel
theorem dX10_opened_87 : decode cX10_opened 87 = .ok (.iconst 0, 1) := by decide +kernel
theorem dX10_opened_88 : decode cX10_opened 88 = .ok (.istore 4, 2) := by decide +kernel
theorem dX10_opened_90 : decode cX10_opened 90 = .ok (.iconst (-1), 1) := by decide +kernel
theorem dX10_opened_91 : decode cX10_opened 91 = .ok (.istore 5, 2) := by decide +kernel
theorem dX10_opened_93 : decode cX10_opened 93 = .ok (.iconst 0, 1) := by decide +kernel
theorem dX10_opened_94 : decode cX10_opened 94 = .ok (.istore 6, 2) := by decide +kernel
theorem dX10_opened_96 : decode cX10_opened 96 = .ok (.iconst 0, 1) := by decide +kernel
theorem dX10_opened_97 : decode cX10_opened 97 = .ok (.istore 7, 2) := by decide +kernel
theorem dX10_opened_99 : decode cX10_opened 99 = .ok (.iload 7, 2) := by decide +kernel
theorem dX10_opened_101 : decode cX10_opened 101 = .ok (.iconst 1, 1) := by decide +kernel
theorem dX10_opened_102 : decode cX10_opened 102 = .ok (.iload_n 3, 1) := by decide +kernel
theorem dX10_opened_103 : decode cX10_opened 103 = .ok (.ishl, 1) := by decide +kernel
theorem dX10_opened_104 : decode cX10_opened 104 = .ok (.if_icmp .ge 126, 3) := by decide +kernel
theorem dX10_opened_107 : decode cX10_opened 107 = .ok (.iconst 0, 1) := by decide +kernel
theorem dX10_opened_108 : decode cX10_opened 108 = .ok (.istore 8, 2) := by decide +kernel
theorem dX10_opened_110 : decode cX10_opened 110 = .ok (.iconst 0, 1) := by decide +kernel
theorem dX10_opened_111 : decode cX10_opened 111 = .ok (.istore 9, 2) := by decide +kernel
theorem dX10_opened_113 : decode cX10_opened 113 = .ok (.iconst 0, 1) := by decide +kernel
theorem dX10_opened_114 : decode cX10_opened 114 = .ok (.istore 10, 2) := by decide +kernel
theorem dX10_opened_116 : decode cX10_opened 116 = .ok (.iload 10, 2) := by decide +kernel
theorem dX10_opened_118 : decode cX10_opened 118 = .ok (.iload_n 3, 1) := by decide +kernel
theorem dX10_opened_119 : decode cX10_opened 119 = .ok (.if_icmp .ge 63, 3) := by decide +kernel
theorem dX10_opened_122 : decode cX10_opened 122 = .ok (.iload 8, 2) := by decide +kernel
theorem dX10_opened_124 : decode cX10_opened 124 = .ok (.iload 7, 2) := by decide +kernel
theorem dX10_opened_126 : decode cX10_opened 126 = .ok (.iload 10, 2) := by decide +kernel
theorem dX10_opened_128 : decode cX10_opened 128 = .ok (.ishr, 1) := by decide +kernel
theorem dX10_opened_129 : decode cX10_opened 129 = .ok (.iconst 1, 1) := by decide +kernel
theorem dX10_opened_130 : decode cX10_opened 130 = .ok (.iand, 1) := by decide +kernel
theorem dX10_opened_131 : decode cX10_opened 131 = .ok (.iconst 1, 1) := by decide +kernel
theorem dX10_opened_132 : decode cX10_opened 132 = .ok (.if_icmp .ne 13, 3) := by decide +kernel
theorem dX10_opened_135 : decode cX10_opened 135 = .ok (.aload_n 0, 1) := by decide +kernel
theorem dX10_opened_136 : decode cX10_opened 136 = .ok (.getfield 86, 3) := by decide +kernel
theorem dX10_opened_139 : decode cX10_opened 139 = .ok (.iload 10, 2) := by decide +kernel
theorem dX10_opened_141 : decode cX10_opened 141 = .ok (.iaload, 1) := by decide +kernel
theorem dX10_opened_142 : decode cX10_opened 142 = .ok (.goto 4, 3) := by decide +kernel
theorem dX10_opened_145 : decode cX10_opened 145 = .ok (.iconst 0, 1) := by decide +kernel
theorem dX10_opened_146 : decode cX10_opened 146 = .ok (.iadd, 1) := by decide +kernel
theorem dX10_opened_147 : decode cX10_opened 147 = .ok (.istore 8, 2) := by decide +kernel
theorem dX10_opened_149 : decode cX10_opened 149 = .ok (.iload 9, 2) := by decide +kernel
theorem dX10_opened_151 : decode cX10_opened 151 = .ok (.iload 7, 2) := by decide +kernel
theorem dX10_opened_153 : decode cX10_opened 153 = .ok (.iload 10, 2) := by decide +kernel
theorem dX10_opened_155 : decode cX10_opened 155 = .ok (.ishr, 1) := by decide +kernel
theorem dX10_opened_156 : decode cX10_opened 156 = .ok (.iconst 1, 1) := by decide +kernel
theorem dX10_opened_157 : decode cX10_opened 157 = .ok (.iand, 1) := by decide +kernel
theorem dX10_opened_158 : decode cX10_opened 158 = .ok (.iconst 1, 1) := by decide +kernel
theorem dX10_opened_159 : decode cX10_opened 159 = .ok (.if_icmp .ne 13, 3) := by decide +kernel
theorem dX10_opened_162 : decode cX10_opened 162 = .ok (.aload_n 0, 1) := by decide +kernel
theorem dX10_opened_163 : decode cX10_opened 163 = .ok (.getfield 89, 3) := by decide +kernel
theorem dX10_opened_166 : decode cX10_opened 166 = .ok (.iload 10, 2) := by decide +kernel
theorem dX10_opened_168 : decode cX10_opened 168 = .ok (.iaload, 1) := by decide +kernel
theorem dX10_opened_169 : decode cX10_opened 169 = .ok (.goto 4, 3) := by decide +kernel
theorem dX10_opened_172 : decode cX10_opened 172 = .ok (.iconst 0, 1) := by decide +kernel
theorem dX10_opened_173 : decode cX10_opened 173 = .ok (.iadd, 1) := by decide +kernel
theorem dX10_opened_174 : decode cX10_opened 174 = .ok (.istore 9, 2) := by decide +kernel
theorem dX10_opened_176 : decode cX10_opened 176 = .ok (.iinc 10 1, 3) := by decide +kernel
theorem dX10_opened_179 : decode cX10_opened 179 = .ok (.goto (-63), 3) := by decide +kernel
theorem dX10_opened_182 : decode cX10_opened 182 = .ok (.iload 9, 2) := by decide +kernel
theorem dX10_opened_184 : decode cX10_opened 184 = .ok (.iload_n 1, 1) := by decide +kernel
theorem dX10_opened_185 : decode cX10_opened 185 = .ok (.if_icmp .gt 39, 3) := by decide +kernel
theorem dX10_opened_188 : decode cX10_opened 188 = .ok (.iload 8, 2) := by decide +kernel
theorem dX10_opened_190 : decode cX10_opened 190 = .ok (.iload 5, 2) := by decide +kernel
theorem dX10_opened_192 : decode cX10_opened 192 = .ok (.if_icmp .lt 32, 3) := by decide +kernel
theorem dX10_opened_195 : decode cX10_opened 195 = .ok (.iload 8, 2) := by decide +kernel
theorem dX10_opened_197 : decode cX10_opened 197 = .ok (.iload 5, 2) := by decide +kernel
theorem dX10_opened_199 : decode cX10_opened 199 = .ok (.if_icmp .ne 13, 3) := by decide +kernel
theorem dX10_opened_202 : decode cX10_opened 202 = .ok (.iload 9, 2) := by decide +kernel
theorem dX10_opened_204 : decode cX10_opened 204 = .ok (.iload 6, 2) := by decide +kernel
theorem dX10_opened_206 : decode cX10_opened 206 = .ok (.if_icmp .lt 6, 3) := by decide +kernel
theorem dX10_opened_209 : decode cX10_opened 209 = .ok (.goto 15, 3) := by decide +kernel
theorem dX10_opened_212 : decode cX10_opened 212 = .ok (.iload 7, 2) := by decide +kernel
theorem dX10_opened_214 : decode cX10_opened 214 = .ok (.istore 4, 2) := by decide +kernel
theorem dX10_opened_216 : decode cX10_opened 216 = .ok (.iload 8, 2) := by decide +kernel
theorem dX10_opened_218 : decode cX10_opened 218 = .ok (.istore 5, 2) := by decide +kernel
theorem dX10_opened_220 : decode cX10_opened 220 = .ok (.iload 9, 2) := by decide +kernel
theorem dX10_opened_222 : decode cX10_opened 222 = .ok (.istore 6, 2) := by decide +kernel
theorem dX10_opened_224 : decode cX10_opened 224 = .ok (.iinc 7 1, 3) := by decide +kernel
theorem dX10_opened_227 : decode cX10_opened 227 = .ok (.goto (-128), 3) := by decide +kernel
theorem dX10_opened_230 : decode cX10_opened 230 = .ok (.iload_n 2, 1) := by decide +kernel
theorem dX10_opened_231 : decode cX10_opened 231 = .ok (.ifCond .ne 8, 3) := by decide +kernel
theorem dX10_opened_234 : decode cX10_opened 234 = .ok (.iload 4, 2) := by decide +kernel
theorem dX10_opened_236 : decode cX10_opened 236 = .ok (.goto 15, 3) := by decide +kernel
theorem dX10_opened_239 : decode cX10_opened 239 = .ok (.iload_n 2, 1) := by decide +kernel
theorem dX10_opened_240 : decode cX10_opened 240 = .ok (.iconst 1, 1) := by decide +kernel
theorem dX10_opened_241 : decode cX10_opened 241 = .ok (.if_icmp .ne 8, 3) := by decide +kernel
theorem dX10_opened_244 : decode cX10_opened 244 = .ok (.iload 5, 2) := by decide +kernel
theorem dX10_opened_246 : decode cX10_opened 246 = .ok (.goto 5, 3) := by decide +kernel
theorem dX10_opened_249 : decode cX10_opened 249 = .ok (.iload 6, 2) := by decide +kernel
theorem dX10_opened_251 : decode cX10_opened 251 = .ok (.ireturn, 1) := by decide +kernel
theorem dX10_owed_0 : decode cX10_owed 0 = .ok (.iload_n 1, 1) := by decide +kernel
theorem dX10_owed_1 : decode cX10_owed 1 = .ok (.invokestatic 406, 3) := by decide +kernel
theorem dX10_owed_4 : decode cX10_owed 4 = .ok (.ifCond .ne 7, 3) := by decide +kernel
theorem dX10_owed_7 : decode cX10_owed 7 = .ok (.ldc2_w 398, 3) := by decide +kernel
theorem dX10_owed_10 : decode cX10_owed 10 = .ok (.lreturn, 1) := by decide +kernel
theorem dX10_owed_11 : decode cX10_owed 11 = .ok (.lconst 0, 1) := by decide +kernel
theorem dX10_owed_12 : decode cX10_owed 12 = .ok (.lstore_n 2, 1) := by decide +kernel
theorem dX10_owed_13 : decode cX10_owed 13 = .ok (.iconst 0, 1) := by decide +kernel
theorem dX10_owed_14 : decode cX10_owed 14 = .ok (.istore 4, 2) := by decide +kernel
theorem dX10_owed_16 : decode cX10_owed 16 = .ok (.iload 4, 2) := by decide +kernel
theorem dX10_owed_18 : decode cX10_owed 18 = .ok (.aload_n 0, 1) := by decide +kernel
theorem dX10_owed_19 : decode cX10_owed 19 = .ok (.getfield 232, 3) := by decide +kernel
theorem dX10_owed_22 : decode cX10_owed 22 = .ok (.if_icmp .ge 78, 3) := by decide +kernel
theorem dX10_owed_25 : decode cX10_owed 25 = .ok (.aload_n 0, 1) := by decide +kernel
theorem dX10_owed_26 : decode cX10_owed 26 = .ok (.aload_n 0, 1) := by decide +kernel
theorem dX10_owed_27 : decode cX10_owed 27 = .ok (.getfield 59, 3) := by decide +kernel
theorem dX10_owed_30 : decode cX10_owed 30 = .ok (.iload 4, 2) := by decide +kernel
theorem dX10_owed_32 : decode cX10_owed 32 = .ok (.iaload, 1) := by decide +kernel
theorem dX10_owed_33 : decode cX10_owed 33 = .ok (.invokevirtual 209, 3) := by decide +kernel
theorem dX10_owed_36 : decode cX10_owed 36 = .ok (.ifCond .ne 6, 3) := by decide +kernel
theorem dX10_owed_39 : decode cX10_owed 39 = .ok (.goto 55, 3) := by decide +kernel
theorem dX10_owed_42 : decode cX10_owed 42 = .ok (.lload_n 2, 1) := by decide +kernel
theorem dX10_owed_43 : decode cX10_owed 43 = .ok (.aload_n 0, 1) := by decide +kernel
theorem dX10_owed_44 : decode cX10_owed 44 = .ok (.getfield 65, 3) := by decide +kernel
theorem dX10_owed_47 : decode cX10_owed 47 = .ok (.iload 4, 2) := by decide +kernel
theorem dX10_owed_49 : decode cX10_owed 49 = .ok (.iaload, 1) := by decide +kernel
theorem dX10_owed_50 : decode cX10_owed 50 = .ok (.iload_n 1, 1) := by decide +kernel
theorem dX10_owed_51 : decode cX10_owed 51 = .ok (.if_icmp .ne 14, 3) := by decide +kernel
theorem dX10_owed_54 : decode cX10_owed 54 = .ok (.aload_n 0, 1) := by decide +kernel
theorem dX10_owed_55 : decode cX10_owed 55 = .ok (.getfield 68, 3) := by decide +kernel
theorem dX10_owed_58 : decode cX10_owed 58 = .ok (.iload 4, 2) := by decide +kernel
theorem dX10_owed_60 : decode cX10_owed 60 = .ok (.iaload, 1) := by decide +kernel
theorem dX10_owed_61 : decode cX10_owed 61 = .ok (.i2l, 1) := by decide +kernel
theorem dX10_owed_62 : decode cX10_owed 62 = .ok (.goto 4, 3) := by decide +kernel
theorem dX10_owed_65 : decode cX10_owed 65 = .ok (.lconst 0, 1) := by decide +kernel
theorem dX10_owed_66 : decode cX10_owed 66 = .ok (.ladd, 1) := by decide +kernel
theorem dX10_owed_67 : decode cX10_owed 67 = .ok (.lstore_n 2, 1) := by decide +kernel
theorem dX10_owed_68 : decode cX10_owed 68 = .ok (.lload_n 2, 1) := by decide +kernel
theorem dX10_owed_69 : decode cX10_owed 69 = .ok (.aload_n 0, 1) := by decide +kernel
theorem dX10_owed_70 : decode cX10_owed 70 = .ok (.getfield 62, 3) := by decide +kernel
theorem dX10_owed_73 : decode cX10_owed 73 = .ok (.iload 4, 2) := by decide +kernel
theorem dX10_owed_75 : decode cX10_owed 75 = .ok (.iaload, 1) := by decide +kernel
theorem dX10_owed_76 : decode cX10_owed 76 = .ok (.iload_n 1, 1) := by decide +kernel
theorem dX10_owed_77 : decode cX10_owed 77 = .ok (.if_icmp .ne 14, 3) := by decide +kernel
theorem dX10_owed_80 : decode cX10_owed 80 = .ok (.aload_n 0, 1) := by decide +kernel
theorem dX10_owed_81 : decode cX10_owed 81 = .ok (.getfield 68, 3) := by decide +kernel
theorem dX10_owed_84 : decode cX10_owed 84 = .ok (.iload 4, 2) := by decide +kernel
theorem dX10_owed_86 : decode cX10_owed 86 = .ok (.iaload, 1) := by decide +kernel
theorem dX10_owed_87 : decode cX10_owed 87 = .ok (.i2l, 1) := by decide +kernel
theorem dX10_owed_88 : decode cX10_owed 88 = .ok (.goto 4, 3) := by decide +kernel
theorem dX10_owed_91 : decode cX10_owed 91 = .ok (.lconst 0, 1) := by decide +kernel
theorem dX10_owed_92 : decode cX10_owed 92 = .ok (.lsub, 1) := by decide +kernel
theorem dX10_owed_93 : decode cX10_owed 93 = .ok (.lstore_n 2, 1) := by decide +kernel
theorem dX10_owed_94 : decode cX10_owed 94 = .ok (.iinc 4 1, 3) := by decide +kernel
theorem dX10_owed_97 : decode cX10_owed 97 = .ok (.goto (-81), 3) := by decide +kernel
theorem dX10_owed_100 : decode cX10_owed 100 = .ok (.lload_n 2, 1) := by decide +kernel
theorem dX10_owed_101 : decode cX10_owed 101 = .ok (.lreturn, 1) := by decide +kernel
theorem dX10_chain_0 : decode cX10_chain 0 = .ok (.aload_n 0, 1) := by decide +kernel
theorem dX10_chain_1 : decode cX10_chain 1 = .ok (.iload_n 1, 1) := by decide +kernel
theorem dX10_chain_2 : decode cX10_chain 2 = .ok (.invokevirtual 186, 3) := by decide +kernel
theorem dX10_chain_5 : decode cX10_chain 5 = .ok (.ifCond .ne 6, 3) := by decide +kernel
theorem dX10_chain_8 : decode cX10_chain 8 = .ok (.bipush (-2), 2) := by decide +kernel
theorem dX10_chain_10 : decode cX10_chain 10 = .ok (.ireturn, 1) := by decide +kernel
theorem dX10_chain_11 : decode cX10_chain 11 = .ok (.aload_n 0, 1) := by decide +kernel
theorem dX10_chain_12 : decode cX10_chain 12 = .ok (.iload_n 1, 1) := by decide +kernel
theorem dX10_chain_13 : decode cX10_chain 13 = .ok (.aload_n 0, 1) := by decide +kernel
theorem dX10_chain_14 : decode cX10_chain 14 = .ok (.getfield 232, 3) := by decide +kernel
theorem dX10_chain_17 : decode cX10_chain 17 = .ok (.invokevirtual 235, 3) := by decide +kernel
theorem dX10_chain_20 : decode cX10_chain 20 = .ok (.istore_n 2, 1) := by decide +kernel
theorem dX10_chain_21 : decode cX10_chain 21 = .ok (.iconst 0, 1) := by decide +kernel
theorem dX10_chain_22 : decode cX10_chain 22 = .ok (.istore_n 3, 1) := by decide +kernel
theorem dX10_chain_23 : decode cX10_chain 23 = .ok (.iload_n 2, 1) := by decide +kernel
theorem dX10_chain_24 : decode cX10_chain 24 = .ok (.iconst (-1), 1) := by decide +kernel
theorem dX10_chain_25 : decode cX10_chain 25 = .ok (.if_icmp .eq 46, 3) := by decide +kernel
theorem dX10_chain_28 : decode cX10_chain 28 = .ok (.iinc 3 1, 3) := by decide +kernel
theorem dX10_chain_31 : decode cX10_chain 31 = .ok (.aload_n 0, 1) := by decide +kernel
theorem dX10_chain_32 : decode cX10_chain 32 = .ok (.iload_n 1, 1) := by decide +kernel
theorem dX10_chain_33 : decode cX10_chain 33 = .ok (.iload_n 2, 1) := by decide +kernel
theorem dX10_chain_34 : decode cX10_chain 34 = .ok (.invokevirtual 235, 3) := by decide +kernel
theorem dX10_chain_37 : decode cX10_chain 37 = .ok (.istore 4, 2) := by decide +kernel
theorem dX10_chain_39 : decode cX10_chain 39 = .ok (.iload 4, 2) := by decide +kernel
theorem dX10_chain_41 : decode cX10_chain 41 = .ok (.iconst (-1), 1) := by decide +kernel
theorem dX10_chain_42 : decode cX10_chain 42 = .ok (.if_icmp .eq 24, 3) := by decide +kernel
theorem dX10_chain_45 : decode cX10_chain 45 = .ok (.aload_n 0, 1) := by decide +kernel
theorem dX10_chain_46 : decode cX10_chain 46 = .ok (.getfield 65, 3) := by decide +kernel
theorem dX10_chain_49 : decode cX10_chain 49 = .ok (.iload 4, 2) := by decide +kernel
theorem dX10_chain_51 : decode cX10_chain 51 = .ok (.iaload, 1) := by decide +kernel
theorem dX10_chain_52 : decode cX10_chain 52 = .ok (.aload_n 0, 1) := by decide +kernel
theorem dX10_chain_53 : decode cX10_chain 53 = .ok (.getfield 62, 3) := by decide +kernel
theorem dX10_chain_56 : decode cX10_chain 56 = .ok (.iload_n 2, 1) := by decide +kernel
theorem dX10_chain_57 : decode cX10_chain 57 = .ok (.iaload, 1) := by decide +kernel
theorem dX10_chain_58 : decode cX10_chain 58 = .ok (.if_icmp .ne 8, 3) := by decide +kernel
theorem dX10_chain_61 : decode cX10_chain 61 = .ok (.iload 4, 2) := by decide +kernel
theorem dX10_chain_63 : decode cX10_chain 63 = .ok (.goto 4, 3) := by decide +kernel
theorem dX10_chain_66 : decode cX10_chain 66 = .ok (.iconst (-1), 1) := by decide +kernel
theorem dX10_chain_67 : decode cX10_chain 67 = .ok (.istore_n 2, 1) := by decide +kernel
theorem dX10_chain_68 : decode cX10_chain 68 = .ok (.goto (-45), 3) := by decide +kernel
theorem dX10_chain_71 : decode cX10_chain 71 = .ok (.iload_n 3, 1) := by decide +kernel
theorem dX10_chain_72 : decode cX10_chain 72 = .ok (.ireturn, 1) := by decide +kernel
theorem dX10_handsOf_0 : decode cX10_handsOf 0 = .ok (.iconst 0, 1) := by decide +kernel
theorem dX10_handsOf_1 : decode cX10_handsOf 1 = .ok (.istore_n 2, 1) := by decide +kernel
theorem dX10_handsOf_2 : decode cX10_handsOf 2 = .ok (.iconst 0, 1) := by decide +kernel
theorem dX10_handsOf_3 : decode cX10_handsOf 3 = .ok (.istore_n 3, 1) := by decide +kernel
theorem dX10_handsOf_4 : decode cX10_handsOf 4 = .ok (.iload_n 3, 1) := by decide +kernel
theorem dX10_handsOf_5 : decode cX10_handsOf 5 = .ok (.aload_n 0, 1) := by decide +kernel
theorem dX10_handsOf_6 : decode cX10_handsOf 6 = .ok (.getfield 232, 3) := by decide +kernel
theorem dX10_handsOf_9 : decode cX10_handsOf 9 = .ok (.if_icmp .ge 43, 3) := by decide +kernel
theorem dX10_handsOf_12 : decode cX10_handsOf 12 = .ok (.iload_n 2, 1) := by decide +kernel
theorem dX10_handsOf_13 : decode cX10_handsOf 13 = .ok (.aload_n 0, 1) := by decide +kernel
theorem dX10_handsOf_14 : decode cX10_handsOf 14 = .ok (.getfield 59, 3) := by decide +kernel
theorem dX10_handsOf_17 : decode cX10_handsOf 17 = .ok (.iload_n 3, 1) := by decide +kernel
theorem dX10_handsOf_18 : decode cX10_handsOf 18 = .ok (.iaload, 1) := by decide +kernel
theorem dX10_handsOf_19 : decode cX10_handsOf 19 = .ok (.iload_n 1, 1) := by decide +kernel
theorem dX10_handsOf_20 : decode cX10_handsOf 20 = .ok (.if_icmp .ne 23, 3) := by decide +kernel
theorem dX10_handsOf_23 : decode cX10_handsOf 23 = .ok (.iconst 1, 1) := by decide +kernel
theorem dX10_handsOf_24 : decode cX10_handsOf 24 = .ok (.aload_n 0, 1) := by decide +kernel
theorem dX10_handsOf_25 : decode cX10_handsOf 25 = .ok (.getfield 62, 3) := by decide +kernel
theorem dX10_handsOf_28 : decode cX10_handsOf 28 = .ok (.iload_n 3, 1) := by decide +kernel
theorem dX10_handsOf_29 : decode cX10_handsOf 29 = .ok (.iaload, 1) := by decide +kernel
theorem dX10_handsOf_30 : decode cX10_handsOf 30 = .ok (.ishl, 1) := by decide +kernel
theorem dX10_handsOf_31 : decode cX10_handsOf 31 = .ok (.iconst 1, 1) := by decide +kernel
theorem dX10_handsOf_32 : decode cX10_handsOf 32 = .ok (.aload_n 0, 1) := by decide +kernel
theorem dX10_handsOf_33 : decode cX10_handsOf 33 = .ok (.getfield 65, 3) := by decide +kernel
theorem dX10_handsOf_36 : decode cX10_handsOf 36 = .ok (.iload_n 3, 1) := by decide +kernel
theorem dX10_handsOf_37 : decode cX10_handsOf 37 = .ok (.iaload, 1) := by decide +kernel
theorem dX10_handsOf_38 : decode cX10_handsOf 38 = .ok (.ishl, 1) := by decide +kernel
theorem dX10_handsOf_39 : decode cX10_handsOf 39 = .ok (.ior, 1) := by decide +kernel
theorem dX10_handsOf_40 : decode cX10_handsOf 40 = .ok (.goto 4, 3) := by decide +kernel
theorem dX10_handsOf_43 : decode cX10_handsOf 43 = .ok (.iconst 0, 1) := by decide +kernel
theorem dX10_handsOf_44 : decode cX10_handsOf 44 = .ok (.ior, 1) := by decide +kernel
theorem dX10_handsOf_45 : decode cX10_handsOf 45 = .ok (.istore_n 2, 1) := by decide +kernel
theorem dX10_handsOf_46 : decode cX10_handsOf 46 = .ok (.iinc 3 1, 3) := by decide +kernel
theorem dX10_handsOf_49 : decode cX10_handsOf 49 = .ok (.goto (-45), 3) := by decide +kernel
theorem dX10_handsOf_52 : decode cX10_handsOf 52 = .ok (.iload_n 2, 1) := by decide +kernel
theorem dX10_handsOf_53 : decode cX10_handsOf 53 = .ok (.ireturn, 1) := by decide +kernel
theorem dX10_falls_0 : decode cX10_falls 0 = .ok (.aload_n 0, 1) := by decide +kernel
theorem dX10_falls_1 : decode cX10_falls 1 = .ok (.iload_n 1, 1) := by decide +kernel
theorem dX10_falls_2 : decode cX10_falls 2 = .ok (.invokevirtual 186, 3) := by decide +kernel
theorem dX10_falls_5 : decode cX10_falls 5 = .ok (.ifCond .eq 15, 3) := by decide +kernel
theorem dX10_falls_8 : decode cX10_falls 8 = .ok (.iload_n 2, 1) := by decide +kernel
theorem dX10_falls_9 : decode cX10_falls 9 = .ok (.i2l, 1) := by decide +kernel
theorem dX10_falls_10 : decode cX10_falls 10 = .ok (.lconst 0, 1) := by decide +kernel
theorem dX10_falls_11 : decode cX10_falls 11 = .ok (.ldc2_w 172, 3) := by decide +kernel
theorem dX10_falls_14 : decode cX10_falls 14 = .ok (.invokestatic 149, 3) := by decide +kernel
theorem dX10_falls_17 : decode cX10_falls 17 = .ok (.ifCond .ne 7, 3) := by decide +kernel
theorem dX10_falls_20 : decode cX10_falls 20 = .ok (.ldc2_w 398, 3) := by decide +kernel
theorem dX10_falls_23 : decode cX10_falls 23 = .ok (.lreturn, 1) := by decide +kernel
theorem dX10_falls_24 : decode cX10_falls 24 = .ok (.aload_n 0, 1) := by decide +kernel
theorem dX10_falls_25 : decode cX10_falls 25 = .ok (.iload_n 1, 1) := by decide +kernel
theorem dX10_falls_26 : decode cX10_falls 26 = .ok (.invokevirtual 425, 3) := by decide +kernel
theorem dX10_falls_29 : decode cX10_falls 29 = .ok (.istore_n 3, 1) := by decide +kernel
theorem dX10_falls_30 : decode cX10_falls 30 = .ok (.lconst 0, 1) := by decide +kernel
theorem dX10_falls_31 : decode cX10_falls 31 = .ok (.lstore 4, 2) := by decide +kernel
theorem dX10_falls_33 : decode cX10_falls 33 = .ok (.iconst 0, 1) := by decide +kernel
theorem dX10_falls_34 : decode cX10_falls 34 = .ok (.istore 6, 2) := by decide +kernel
theorem dX10_falls_36 : decode cX10_falls 36 = .ok (.iload 6, 2) := by decide +kernel
theorem dX10_falls_38 : decode cX10_falls 38 = .ok (.aload_n 0, 1) := by decide +kernel
theorem dX10_falls_39 : decode cX10_falls 39 = .ok (.getfield 174, 3) := by decide +kernel
theorem dX10_falls_42 : decode cX10_falls 42 = .ok (.if_icmp .ge 61, 3) := by decide +kernel
theorem dX10_falls_45 : decode cX10_falls 45 = .ok (.lload 4, 2) := by decide +kernel
theorem dX10_falls_47 : decode cX10_falls 47 = .ok (.aload_n 0, 1) := by decide +kernel
theorem dX10_falls_48 : decode cX10_falls 48 = .ok (.getfield 50, 3) := by decide +kernel
theorem dX10_falls_51 : decode cX10_falls 51 = .ok (.iload 6, 2) := by decide +kernel
theorem dX10_falls_53 : decode cX10_falls 53 = .ok (.iaload, 1) := by decide +kernel
theorem dX10_falls_54 : decode cX10_falls 54 = .ok (.aload_n 0, 1) := by decide +kernel
theorem dX10_falls_55 : decode cX10_falls 55 = .ok (.getfield 50, 3) := by decide +kernel
theorem dX10_falls_58 : decode cX10_falls 58 = .ok (.iload_n 1, 1) := by decide +kernel
theorem dX10_falls_59 : decode cX10_falls 59 = .ok (.iaload, 1) := by decide +kernel
theorem dX10_falls_60 : decode cX10_falls 60 = .ok (.if_icmp .eq 14, 3) := by decide +kernel
theorem dX10_falls_63 : decode cX10_falls 63 = .ok (.aload_n 0, 1) := by decide +kernel
theorem dX10_falls_64 : decode cX10_falls 64 = .ok (.iload 6, 2) := by decide +kernel
theorem dX10_falls_66 : decode cX10_falls 66 = .ok (.invokevirtual 425, 3) := by decide +kernel
theorem dX10_falls_69 : decode cX10_falls 69 = .ok (.iload_n 3, 1) := by decide +kernel
theorem dX10_falls_70 : decode cX10_falls 70 = .ok (.iand, 1) := by decide +kernel
theorem dX10_falls_71 : decode cX10_falls 71 = .ok (.ifCond .eq 22, 3) := by decide +kernel
theorem dX10_falls_74 : decode cX10_falls 74 = .ok (.aload_n 0, 1) := by decide +kernel
theorem dX10_falls_75 : decode cX10_falls 75 = .ok (.iload 6, 2) := by decide +kernel
theorem dX10_falls_77 : decode cX10_falls 77 = .ok (.invokevirtual 209, 3) := by decide +kernel
theorem dX10_falls_80 : decode cX10_falls 80 = .ok (.ifCond .ne 13, 3) := by decide +kernel
theorem dX10_falls_83 : decode cX10_falls 83 = .ok (.aload_n 0, 1) := by decide +kernel
theorem dX10_falls_84 : decode cX10_falls 84 = .ok (.iload 6, 2) := by decide +kernel
theorem dX10_falls_86 : decode cX10_falls 86 = .ok (.invokevirtual 224, 3) := by decide +kernel
theorem dX10_falls_89 : decode cX10_falls 89 = .ok (.i2l, 1) := by decide +kernel
theorem dX10_falls_90 : decode cX10_falls 90 = .ok (.goto 4, 3) := by decide +kernel
theorem dX10_falls_93 : decode cX10_falls 93 = .ok (.lconst 0, 1) := by decide +kernel
theorem dX10_falls_94 : decode cX10_falls 94 = .ok (.ladd, 1) := by decide +kernel
theorem dX10_falls_95 : decode cX10_falls 95 = .ok (.lstore 4, 2) := by decide +kernel
theorem dX10_falls_97 : decode cX10_falls 97 = .ok (.iinc 6 1, 3) := by decide +kernel
theorem dX10_falls_100 : decode cX10_falls 100 = .ok (.goto (-64), 3) := by decide +kernel
theorem dX10_falls_103 : decode cX10_falls 103 = .ok (.lload 4, 2) := by decide +kernel
theorem dX10_falls_105 : decode cX10_falls 105 = .ok (.iload_n 2, 1) := by decide +kernel
theorem dX10_falls_106 : decode cX10_falls 106 = .ok (.i2l, 1) := by decide +kernel
theorem dX10_falls_107 : decode cX10_falls 107 = .ok (.lmul, 1) := by decide +kernel
theorem dX10_falls_108 : decode cX10_falls 108 = .ok (.ldc2_w 172, 3) := by decide +kernel
theorem dX10_falls_111 : decode cX10_falls 111 = .ok (.ldiv, 1) := by decide +kernel
theorem dX10_falls_112 : decode cX10_falls 112 = .ok (.lreturn, 1) := by decide +kernel
theorem dX10_saw_0 : decode cX10_saw 0 = .ok (.iload_n 1, 1) := by decide +kernel
theorem dX10_saw_1 : decode cX10_saw 1 = .ok (.i2l, 1) := by decide +kernel
theorem dX10_saw_2 : decode cX10_saw 2 = .ok (.lconst 0, 1) := by decide +kernel
theorem dX10_saw_3 : decode cX10_saw 3 = .ok (.aload_n 0, 1) := by decide +kernel
theorem dX10_saw_4 : decode cX10_saw 4 = .ok (.getfield 232, 3) := by decide +kernel
theorem dX10_saw_7 : decode cX10_saw 7 = .ok (.iconst 1, 1) := by decide +kernel
theorem dX10_saw_8 : decode cX10_saw 8 = .ok (.isub, 1) := by decide +kernel
theorem dX10_saw_9 : decode cX10_saw 9 = .ok (.i2l, 1) := by decide +kernel
theorem dX10_saw_10 : decode cX10_saw 10 = .ok (.invokestatic 149, 3) := by decide +kernel
theorem dX10_saw_13 : decode cX10_saw 13 = .ok (.ifCond .ne 6, 3) := by decide +kernel
theorem dX10_saw_16 : decode cX10_saw 16 = .ok (.bipush (-2), 2) := by decide +kernel
theorem dX10_saw_18 : decode cX10_saw 18 = .ok (.ireturn, 1) := by decide +kernel
theorem dX10_saw_19 : decode cX10_saw 19 = .ok (.iconst 0, 1) := by decide +kernel
theorem dX10_saw_20 : decode cX10_saw 20 = .ok (.istore_n 2, 1) := by decide +kernel
theorem dX10_saw_21 : decode cX10_saw 21 = .ok (.iconst 0, 1) := by decide +kernel
theorem dX10_saw_22 : decode cX10_saw 22 = .ok (.istore_n 3, 1) := by decide +kernel
theorem dX10_saw_23 : decode cX10_saw 23 = .ok (.iload_n 3, 1) := by decide +kernel
theorem dX10_saw_24 : decode cX10_saw 24 = .ok (.iconst 3, 1) := by decide +kernel
theorem dX10_saw_25 : decode cX10_saw 25 = .ok (.if_icmp .ge 48, 3) := by decide +kernel
theorem dX10_saw_28 : decode cX10_saw 28 = .ok (.iload_n 2, 1) := by decide +kernel
theorem dX10_saw_29 : decode cX10_saw 29 = .ok (.ifCond .ne 32, 3) := by decide +kernel
theorem dX10_saw_32 : decode cX10_saw 32 = .ok (.aload_n 0, 1) := by decide +kernel
theorem dX10_saw_33 : decode cX10_saw 33 = .ok (.aload_n 0, 1) := by decide +kernel
theorem dX10_saw_34 : decode cX10_saw 34 = .ok (.getfield 59, 3) := by decide +kernel
theorem dX10_saw_37 : decode cX10_saw 37 = .ok (.iload_n 1, 1) := by decide +kernel
theorem dX10_saw_38 : decode cX10_saw 38 = .ok (.iaload, 1) := by decide +kernel
theorem dX10_saw_39 : decode cX10_saw 39 = .ok (.iload_n 3, 1) := by decide +kernel
theorem dX10_saw_40 : decode cX10_saw 40 = .ok (.invokevirtual 195, 3) := by decide +kernel
theorem dX10_saw_43 : decode cX10_saw 43 = .ok (.ifCond .eq 22, 3) := by decide +kernel
theorem dX10_saw_46 : decode cX10_saw 46 = .ok (.aload_n 0, 1) := by decide +kernel
theorem dX10_saw_47 : decode cX10_saw 47 = .ok (.getfield 44, 3) := by decide +kernel
theorem dX10_saw_50 : decode cX10_saw 50 = .ok (.iload_n 3, 1) := by decide +kernel
theorem dX10_saw_51 : decode cX10_saw 51 = .ok (.iaload, 1) := by decide +kernel
theorem dX10_saw_52 : decode cX10_saw 52 = .ok (.aload_n 0, 1) := by decide +kernel
theorem dX10_saw_53 : decode cX10_saw 53 = .ok (.getfield 71, 3) := by decide +kernel
theorem dX10_saw_56 : decode cX10_saw 56 = .ok (.iload_n 1, 1) := by decide +kernel
theorem dX10_saw_57 : decode cX10_saw 57 = .ok (.iaload, 1) := by decide +kernel
theorem dX10_saw_58 : decode cX10_saw 58 = .ok (.if_icmp .gt 7, 3) := by decide +kernel
theorem dX10_saw_61 : decode cX10_saw 61 = .ok (.iconst 1, 1) := by decide +kernel
theorem dX10_saw_62 : decode cX10_saw 62 = .ok (.goto 4, 3) := by decide +kernel
theorem dX10_saw_65 : decode cX10_saw 65 = .ok (.iconst 0, 1) := by decide +kernel
theorem dX10_saw_66 : decode cX10_saw 66 = .ok (.istore_n 2, 1) := by decide +kernel
theorem dX10_saw_67 : decode cX10_saw 67 = .ok (.iinc 3 1, 3) := by decide +kernel
theorem dX10_saw_70 : decode cX10_saw 70 = .ok (.goto (-47), 3) := by decide +kernel
theorem dX10_saw_73 : decode cX10_saw 73 = .ok (.iload_n 2, 1) := by decide +kernel
theorem dX10_saw_74 : decode cX10_saw 74 = .ok (.ifCond .eq 7, 3) := by decide +kernel
theorem dX10_saw_77 : decode cX10_saw 77 = .ok (.iconst 1, 1) := by decide +kernel
theorem dX10_saw_78 : decode cX10_saw 78 = .ok (.goto 4, 3) := by decide +kernel
theorem dX10_saw_81 : decode cX10_saw 81 = .ok (.iconst 0, 1) := by decide +kernel
theorem dX10_saw_82 : decode cX10_saw 82 = .ok (.ireturn, 1) := by decide +kernel
theorem dX10_image_0 : decode cX10_image 0 = .ok (.aload_n 0, 1) := by decide +kernel
theorem dX10_image_1 : decode cX10_image 1 = .ok (.iconst 1, 1) := by decide +kernel
theorem dX10_image_2 : decode cX10_image 2 = .ok (.putfield 428, 3) := by decide +kernel
theorem dX10_image_5 : decode cX10_image 5 = .ok (.aload_n 0, 1) := by decide +kernel
theorem dX10_image_6 : decode cX10_image 6 = .ok (.aload_n 0, 1) := by decide +kernel
theorem dX10_image_7 : decode cX10_image 7 = .ok (.getfield 146, 3) := by decide +kernel
theorem dX10_image_10 : decode cX10_image 10 = .ok (.putfield 431, 3) := by decide +kernel
theorem dX10_image_13 : decode cX10_image 13 = .ok (.aload_n 0, 1) := by decide +kernel
theorem dX10_image_14 : decode cX10_image 14 = .ok (.aload_n 0, 1) := by decide +kernel
theorem dX10_image_15 : decode cX10_image 15 = .ok (.getfield 232, 3) := by decide +kernel
theorem dX10_image_18 : decode cX10_image 18 = .ok (.putfield 434, 3) := by decide +kernel
theorem dX10_image_21 : decode cX10_image 21 = .ok (.aload_n 0, 1) := by decide +kernel
theorem dX10_image_22 : decode cX10_image 22 = .ok (.aload_n 0, 1) := by decide +kernel
theorem dX10_image_23 : decode cX10_image 23 = .ok (.getfield 382, 3) := by decide +kernel
theorem dX10_image_26 : decode cX10_image 26 = .ok (.putfield 437, 3) := by decide +kernel
theorem dX10_image_29 : decode cX10_image 29 = .ok (.iconst 0, 1) := by decide +kernel
theorem dX10_image_30 : decode cX10_image 30 = .ok (.istore_n 1, 1) := by decide +kernel
theorem dX10_image_31 : decode cX10_image 31 = .ok (.iload_n 1, 1) := by decide +kernel
theorem dX10_image_32 : decode cX10_image 32 = .ok (.aload_n 0, 1) := by decide +kernel
theorem dX10_image_33 : decode cX10_image 33 = .ok (.getfield 146, 3) := by decide +kernel
theorem dX10_image_36 : decode cX10_image 36 = .ok (.if_icmp .ge 21, 3) := by decide +kernel
theorem dX10_image_39 : decode cX10_image 39 = .ok (.aload_n 0, 1) := by decide +kernel
theorem dX10_image_40 : decode cX10_image 40 = .ok (.getfield 92, 3) := by decide +kernel
theorem dX10_image_43 : decode cX10_image 43 = .ok (.iload_n 1, 1) := by decide +kernel
theorem dX10_image_44 : decode cX10_image 44 = .ok (.aload_n 0, 1) := by decide +kernel
theorem dX10_image_45 : decode cX10_image 45 = .ok (.getfield 29, 3) := by decide +kernel
theorem dX10_image_48 : decode cX10_image 48 = .ok (.iload_n 1, 1) := by decide +kernel
theorem dX10_image_49 : decode cX10_image 49 = .ok (.iaload, 1) := by decide +kernel
theorem dX10_image_50 : decode cX10_image 50 = .ok (.iastore, 1) := by decide +kernel
theorem dX10_image_51 : decode cX10_image 51 = .ok (.iinc 1 1, 3) := by decide +kernel
theorem dX10_image_54 : decode cX10_image 54 = .ok (.goto (-23), 3) := by decide +kernel
theorem dX10_image_57 : decode cX10_image 57 = .ok (.iconst 0, 1) := by decide +kernel
theorem dX10_image_58 : decode cX10_image 58 = .ok (.istore_n 1, 1) := by decide +kernel
theorem dX10_image_59 : decode cX10_image 59 = .ok (.iload_n 1, 1) := by decide +kernel
theorem dX10_image_60 : decode cX10_image 60 = .ok (.bipush 12, 2) := by decide +kernel
theorem dX10_image_62 : decode cX10_image 62 = .ok (.if_icmp .ge 33, 3) := by decide +kernel
theorem dX10_image_65 : decode cX10_image 65 = .ok (.aload_n 0, 1) := by decide +kernel
theorem dX10_image_66 : decode cX10_image 66 = .ok (.getfield 95, 3) := by decide +kernel
theorem dX10_image_69 : decode cX10_image 69 = .ok (.iload_n 1, 1) := by decide +kernel
theorem dX10_image_70 : decode cX10_image 70 = .ok (.aload_n 0, 1) := by decide +kernel
theorem dX10_image_71 : decode cX10_image 71 = .ok (.getfield 38, 3) := by decide +kernel
theorem dX10_image_74 : decode cX10_image 74 = .ok (.iload_n 1, 1) := by decide +kernel
theorem dX10_image_75 : decode cX10_image 75 = .ok (.iaload, 1) := by decide +kernel
theorem dX10_image_76 : decode cX10_image 76 = .ok (.iastore, 1) := by decide +kernel
theorem dX10_image_77 : decode cX10_image 77 = .ok (.aload_n 0, 1) := by decide +kernel
theorem dX10_image_78 : decode cX10_image 78 = .ok (.getfield 98, 3) := by decide +kernel
theorem dX10_image_81 : decode cX10_image 81 = .ok (.iload_n 1, 1) := by decide +kernel
theorem dX10_image_82 : decode cX10_image 82 = .ok (.aload_n 0, 1) := by decide +kernel
theorem dX10_image_83 : decode cX10_image 83 = .ok (.getfield 41, 3) := by decide +kernel
theorem dX10_image_86 : decode cX10_image 86 = .ok (.iload_n 1, 1) := by decide +kernel
theorem dX10_image_87 : decode cX10_image 87 = .ok (.iaload, 1) := by decide +kernel
theorem dX10_image_88 : decode cX10_image 88 = .ok (.iastore, 1) := by decide +kernel
theorem dX10_image_89 : decode cX10_image 89 = .ok (.iinc 1 1, 3) := by decide +kernel
theorem dX10_image_92 : decode cX10_image 92 = .ok (.goto (-33), 3) := by decide +kernel
theorem dX10_image_95 : decode cX10_image 95 = .ok (.iconst 0, 1) := by decide +kernel
theorem dX10_image_96 : decode cX10_image 96 = .ok (.istore_n 1, 1) := by decide +kernel
theorem dX10_image_97 : decode cX10_image 97 = .ok (.iload_n 1, 1) := by decide +kernel
theorem dX10_image_98 : decode cX10_image 98 = .ok (.iconst 3, 1) := by decide +kernel
theorem dX10_image_99 : decode cX10_image 99 = .ok (.if_icmp .ge 21, 3) := by decide +kernel
theorem dX10_image_102 : decode cX10_image 102 = .ok (.aload_n 0, 1) := by decide +kernel
theorem dX10_image_103 : decode cX10_image 103 = .ok (.getfield 101, 3) := by decide +kernel
theorem dX10_image_106 : decode cX10_image 106 = .ok (.iload_n 1, 1) := by decide +kernel
theorem dX10_image_107 : decode cX10_image 107 = .ok (.aload_n 0, 1) := by decide +kernel
theorem dX10_image_108 : decode cX10_image 108 = .ok (.getfield 44, 3) := by decide +kernel
theorem dX10_image_111 : decode cX10_image 111 = .ok (.iload_n 1, 1) := by decide +kernel
theorem dX10_image_112 : decode cX10_image 112 = .ok (.iaload, 1) := by decide +kernel
theorem dX10_image_113 : decode cX10_image 113 = .ok (.iastore, 1) := by decide +kernel
theorem dX10_image_114 : decode cX10_image 114 = .ok (.iinc 1 1, 3) := by decide +kernel
theorem dX10_image_117 : decode cX10_image 117 = .ok (.goto (-20), 3) := by decide +kernel
theorem dX10_image_120 : decode cX10_image 120 = .ok (.aload_n 0, 1) := by decide +kernel
theorem dX10_image_121 : decode cX10_image 121 = .ok (.getfield 232, 3) := by decide +kernel
theorem dX10_image_124 : decode cX10_image 124 = .ok (.ireturn, 1) := by decide +kernel
theorem dX10_back_0 : decode cX10_back 0 = .ok (.aload_n 0, 1) := by decide +kernel
theorem dX10_back_1 : decode cX10_back 1 = .ok (.getfield 428, 3) := by decide +kernel
theorem dX10_back_4 : decode cX10_back 4 = .ok (.ifCond .ne 6, 3) := by decide +kernel
theorem dX10_back_7 : decode cX10_back 7 = .ok (.bipush (-3), 2) := by decide +kernel
theorem dX10_back_9 : decode cX10_back 9 = .ok (.ireturn, 1) := by decide +kernel
theorem dX10_back_10 : decode cX10_back 10 = .ok (.aload_n 0, 1) := by decide +kernel
theorem dX10_back_11 : decode cX10_back 11 = .ok (.aload_n 0, 1) := by decide +kernel
theorem dX10_back_12 : decode cX10_back 12 = .ok (.getfield 434, 3) := by decide +kernel
theorem dX10_back_15 : decode cX10_back 15 = .ok (.putfield 232, 3) := by decide +kernel
theorem dX10_back_18 : decode cX10_back 18 = .ok (.aload_n 0, 1) := by decide +kernel
theorem dX10_back_19 : decode cX10_back 19 = .ok (.aload_n 0, 1) := by decide +kernel
theorem dX10_back_20 : decode cX10_back 20 = .ok (.getfield 437, 3) := by decide +kernel
theorem dX10_back_23 : decode cX10_back 23 = .ok (.putfield 382, 3) := by decide +kernel
theorem dX10_back_26 : decode cX10_back 26 = .ok (.iconst 0, 1) := by decide +kernel
theorem dX10_back_27 : decode cX10_back 27 = .ok (.istore_n 1, 1) := by decide +kernel
theorem dX10_back_28 : decode cX10_back 28 = .ok (.iload_n 1, 1) := by decide +kernel
theorem dX10_back_29 : decode cX10_back 29 = .ok (.aload_n 0, 1) := by decide +kernel
theorem dX10_back_30 : decode cX10_back 30 = .ok (.getfield 431, 3) := by decide +kernel
theorem dX10_back_33 : decode cX10_back 33 = .ok (.if_icmp .ge 21, 3) := by decide +kernel
theorem dX10_back_36 : decode cX10_back 36 = .ok (.aload_n 0, 1) := by decide +kernel
theorem dX10_back_37 : decode cX10_back 37 = .ok (.getfield 29, 3) := by decide +kernel
theorem dX10_back_40 : decode cX10_back 40 = .ok (.iload_n 1, 1) := by decide +kernel
theorem dX10_back_41 : decode cX10_back 41 = .ok (.aload_n 0, 1) := by decide +kernel
theorem dX10_back_42 : decode cX10_back 42 = .ok (.getfield 92, 3) := by decide +kernel
theorem dX10_back_45 : decode cX10_back 45 = .ok (.iload_n 1, 1) := by decide +kernel
theorem dX10_back_46 : decode cX10_back 46 = .ok (.iaload, 1) := by decide +kernel
theorem dX10_back_47 : decode cX10_back 47 = .ok (.iastore, 1) := by decide +kernel
theorem dX10_back_48 : decode cX10_back 48 = .ok (.iinc 1 1, 3) := by decide +kernel
theorem dX10_back_51 : decode cX10_back 51 = .ok (.goto (-23), 3) := by decide +kernel
theorem dX10_back_54 : decode cX10_back 54 = .ok (.iconst 0, 1) := by decide +kernel
theorem dX10_back_55 : decode cX10_back 55 = .ok (.istore_n 1, 1) := by decide +kernel
theorem dX10_back_56 : decode cX10_back 56 = .ok (.iload_n 1, 1) := by decide +kernel
theorem dX10_back_57 : decode cX10_back 57 = .ok (.bipush 12, 2) := by decide +kernel
theorem dX10_back_59 : decode cX10_back 59 = .ok (.if_icmp .ge 33, 3) := by decide +kernel
theorem dX10_back_62 : decode cX10_back 62 = .ok (.aload_n 0, 1) := by decide +kernel
theorem dX10_back_63 : decode cX10_back 63 = .ok (.getfield 38, 3) := by decide +kernel
theorem dX10_back_66 : decode cX10_back 66 = .ok (.iload_n 1, 1) := by decide +kernel
theorem dX10_back_67 : decode cX10_back 67 = .ok (.aload_n 0, 1) := by decide +kernel
theorem dX10_back_68 : decode cX10_back 68 = .ok (.getfield 95, 3) := by decide +kernel
theorem dX10_back_71 : decode cX10_back 71 = .ok (.iload_n 1, 1) := by decide +kernel
theorem dX10_back_72 : decode cX10_back 72 = .ok (.iaload, 1) := by decide +kernel
theorem dX10_back_73 : decode cX10_back 73 = .ok (.iastore, 1) := by decide +kernel
theorem dX10_back_74 : decode cX10_back 74 = .ok (.aload_n 0, 1) := by decide +kernel
theorem dX10_back_75 : decode cX10_back 75 = .ok (.getfield 41, 3) := by decide +kernel
theorem dX10_back_78 : decode cX10_back 78 = .ok (.iload_n 1, 1) := by decide +kernel
theorem dX10_back_79 : decode cX10_back 79 = .ok (.aload_n 0, 1) := by decide +kernel
theorem dX10_back_80 : decode cX10_back 80 = .ok (.getfield 98, 3) := by decide +kernel
theorem dX10_back_83 : decode cX10_back 83 = .ok (.iload_n 1, 1) := by decide +kernel
theorem dX10_back_84 : decode cX10_back 84 = .ok (.iaload, 1) := by decide +kernel
theorem dX10_back_85 : decode cX10_back 85 = .ok (.iastore, 1) := by decide +kernel
theorem dX10_back_86 : decode cX10_back 86 = .ok (.iinc 1 1, 3) := by decide +kernel
theorem dX10_back_89 : decode cX10_back 89 = .ok (.goto (-33), 3) := by decide +kernel
theorem dX10_back_92 : decode cX10_back 92 = .ok (.iconst 0, 1) := by decide +kernel
theorem dX10_back_93 : decode cX10_back 93 = .ok (.istore_n 1, 1) := by decide +kernel
theorem dX10_back_94 : decode cX10_back 94 = .ok (.iload_n 1, 1) := by decide +kernel
theorem dX10_back_95 : decode cX10_back 95 = .ok (.iconst 3, 1) := by decide +kernel
theorem dX10_back_96 : decode cX10_back 96 = .ok (.if_icmp .ge 21, 3) := by decide +kernel
theorem dX10_back_99 : decode cX10_back 99 = .ok (.aload_n 0, 1) := by decide +kernel
theorem dX10_back_100 : decode cX10_back 100 = .ok (.getfield 44, 3) := by decide +kernel
theorem dX10_back_103 : decode cX10_back 103 = .ok (.iload_n 1, 1) := by decide +kernel
theorem dX10_back_104 : decode cX10_back 104 = .ok (.aload_n 0, 1) := by decide +kernel
theorem dX10_back_105 : decode cX10_back 105 = .ok (.getfield 101, 3) := by decide +kernel
theorem dX10_back_108 : decode cX10_back 108 = .ok (.iload_n 1, 1) := by decide +kernel
theorem dX10_back_109 : decode cX10_back 109 = .ok (.iaload, 1) := by decide +kernel
theorem dX10_back_110 : decode cX10_back 110 = .ok (.iastore, 1) := by decide +kernel
theorem dX10_back_111 : decode cX10_back 111 = .ok (.iinc 1 1, 3) := by decide +kernel
theorem dX10_back_114 : decode cX10_back 114 = .ok (.goto (-20), 3) := by decide +kernel
theorem dX10_back_117 : decode cX10_back 117 = .ok (.aload_n 0, 1) := by decide +kernel
theorem dX10_back_118 : decode cX10_back 118 = .ok (.getfield 232, 3) := by decide +kernel
theorem dX10_back_121 : decode cX10_back 121 = .ok (.ireturn, 1) := by decide +kernel
theorem dX10_count_0 : decode cX10_count 0 = .ok (.iconst 0, 1) := by decide +kernel
theorem dX10_count_1 : decode cX10_count 1 = .ok (.istore_n 2, 1) := by decide +kernel
theorem dX10_count_2 : decode cX10_count 2 = .ok (.iload_n 1, 1) := by decide +kernel
theorem dX10_count_3 : decode cX10_count 3 = .ok (.tableswitch 144 0 7 #[45, 50, 55, 60, 65, 70, 75, 109], 45) := by decide +kernel
theorem dX10_count_48 : decode cX10_count 48 = .ok (.aload_n 0, 1) := by decide +kernel
theorem dX10_count_49 : decode cX10_count 49 = .ok (.getfield 146, 3) := by decide +kernel
theorem dX10_count_52 : decode cX10_count 52 = .ok (.ireturn, 1) := by decide +kernel
theorem dX10_count_53 : decode cX10_count 53 = .ok (.aload_n 0, 1) := by decide +kernel
theorem dX10_count_54 : decode cX10_count 54 = .ok (.getfield 174, 3) := by decide +kernel
theorem dX10_count_57 : decode cX10_count 57 = .ok (.ireturn, 1) := by decide +kernel
theorem dX10_count_58 : decode cX10_count 58 = .ok (.aload_n 0, 1) := by decide +kernel
theorem dX10_count_59 : decode cX10_count 59 = .ok (.getfield 232, 3) := by decide +kernel
theorem dX10_count_62 : decode cX10_count 62 = .ok (.ireturn, 1) := by decide +kernel
theorem dX10_count_63 : decode cX10_count 63 = .ok (.aload_n 0, 1) := by decide +kernel
theorem dX10_count_64 : decode cX10_count 64 = .ok (.getfield 141, 3) := by decide +kernel
theorem dX10_count_67 : decode cX10_count 67 = .ok (.ireturn, 1) := by decide +kernel
theorem dX10_count_68 : decode cX10_count 68 = .ok (.aload_n 0, 1) := by decide +kernel
theorem dX10_count_69 : decode cX10_count 69 = .ok (.getfield 240, 3) := by decide +kernel
theorem dX10_count_72 : decode cX10_count 72 = .ok (.ireturn, 1) := by decide +kernel
theorem dX10_count_73 : decode cX10_count 73 = .ok (.aload_n 0, 1) := by decide +kernel
theorem dX10_count_74 : decode cX10_count 74 = .ok (.getfield 382, 3) := by decide +kernel
theorem dX10_count_77 : decode cX10_count 77 = .ok (.ireturn, 1) := by decide +kernel
theorem dX10_count_78 : decode cX10_count 78 = .ok (.iconst 0, 1) := by decide +kernel
theorem dX10_count_79 : decode cX10_count 79 = .ok (.istore_n 3, 1) := by decide +kernel
theorem dX10_count_80 : decode cX10_count 80 = .ok (.iload_n 3, 1) := by decide +kernel
theorem dX10_count_81 : decode cX10_count 81 = .ok (.aload_n 0, 1) := by decide +kernel
theorem dX10_count_82 : decode cX10_count 82 = .ok (.getfield 174, 3) := by decide +kernel
theorem dX10_count_85 : decode cX10_count 85 = .ok (.if_icmp .ge 25, 3) := by decide +kernel
theorem dX10_count_88 : decode cX10_count 88 = .ok (.iload_n 2, 1) := by decide +kernel
theorem dX10_count_89 : decode cX10_count 89 = .ok (.aload_n 0, 1) := by decide +kernel
theorem dX10_count_90 : decode cX10_count 90 = .ok (.iload_n 3, 1) := by decide +kernel
theorem dX10_count_91 : decode cX10_count 91 = .ok (.invokevirtual 209, 3) := by decide +kernel
theorem dX10_count_94 : decode cX10_count 94 = .ok (.ifCond .eq 7, 3) := by decide +kernel
theorem dX10_count_97 : decode cX10_count 97 = .ok (.iconst 1, 1) := by decide +kernel
theorem dX10_count_98 : decode cX10_count 98 = .ok (.goto 4, 3) := by decide +kernel
theorem dX10_count_101 : decode cX10_count 101 = .ok (.iconst 0, 1) := by decide +kernel
theorem dX10_count_102 : decode cX10_count 102 = .ok (.iadd, 1) := by decide +kernel
theorem dX10_count_103 : decode cX10_count 103 = .ok (.istore_n 2, 1) := by decide +kernel
theorem dX10_count_104 : decode cX10_count 104 = .ok (.iinc 3 1, 3) := by decide +kernel
theorem dX10_count_107 : decode cX10_count 107 = .ok (.goto (-27), 3) := by decide +kernel
theorem dX10_count_110 : decode cX10_count 110 = .ok (.iload_n 2, 1) := by decide +kernel
theorem dX10_count_111 : decode cX10_count 111 = .ok (.ireturn, 1) := by decide +kernel
theorem dX10_count_112 : decode cX10_count 112 = .ok (.iconst 0, 1) := by decide +kernel
theorem dX10_count_113 : decode cX10_count 113 = .ok (.istore_n 3, 1) := by decide +kernel
theorem dX10_count_114 : decode cX10_count 114 = .ok (.iload_n 3, 1) := by decide +kernel
theorem dX10_count_115 : decode cX10_count 115 = .ok (.aload_n 0, 1) := by decide +kernel
theorem dX10_count_116 : decode cX10_count 116 = .ok (.getfield 174, 3) := by decide +kernel
theorem dX10_count_119 : decode cX10_count 119 = .ok (.if_icmp .ge 26, 3) := by decide +kernel
theorem dX10_count_122 : decode cX10_count 122 = .ok (.iload_n 2, 1) := by decide +kernel
theorem dX10_count_123 : decode cX10_count 123 = .ok (.aload_n 0, 1) := by decide +kernel
theorem dX10_count_124 : decode cX10_count 124 = .ok (.iload_n 3, 1) := by decide +kernel
theorem dX10_count_125 : decode cX10_count 125 = .ok (.invokevirtual 218, 3) := by decide +kernel
theorem dX10_count_128 : decode cX10_count 128 = .ok (.iconst (-1), 1) := by decide +kernel
theorem dX10_count_129 : decode cX10_count 129 = .ok (.if_icmp .eq 7, 3) := by decide +kernel
theorem dX10_count_132 : decode cX10_count 132 = .ok (.iconst 1, 1) := by decide +kernel
theorem dX10_count_133 : decode cX10_count 133 = .ok (.goto 4, 3) := by decide +kernel
theorem dX10_count_136 : decode cX10_count 136 = .ok (.iconst 0, 1) := by decide +kernel
theorem dX10_count_137 : decode cX10_count 137 = .ok (.iadd, 1) := by decide +kernel
theorem dX10_count_138 : decode cX10_count 138 = .ok (.istore_n 2, 1) := by decide +kernel
theorem dX10_count_139 : decode cX10_count 139 = .ok (.iinc 3 1, 3) := by decide +kernel
theorem dX10_count_142 : decode cX10_count 142 = .ok (.goto (-28), 3) := by decide +kernel
theorem dX10_count_145 : decode cX10_count 145 = .ok (.iload_n 2, 1) := by decide +kernel
theorem dX10_count_146 : decode cX10_count 146 = .ok (.ireturn, 1) := by decide +kernel
theorem dX10_count_147 : decode cX10_count 147 = .ok (.bipush (-2), 2) := by decide +kernel
theorem dX10_count_149 : decode cX10_count 149 = .ok (.ireturn, 1) := by decide +kernel
theorem dX10_isSheet_0 : decode cX10_isSheet 0 = .ok (.iload_n 0, 1) := by decide +kernel
theorem dX10_isSheet_1 : decode cX10_isSheet 1 = .ok (.i2l, 1) := by decide +kernel
theorem dX10_isSheet_2 : decode cX10_isSheet 2 = .ok (.lconst 0, 1) := by decide +kernel
theorem dX10_isSheet_3 : decode cX10_isSheet 3 = .ok (.ldc2_w 170, 3) := by decide +kernel
theorem dX10_isSheet_6 : decode cX10_isSheet 6 = .ok (.invokestatic 149, 3) := by decide +kernel
theorem dX10_isSheet_9 : decode cX10_isSheet 9 = .ok (.ireturn, 1) := by decide +kernel
theorem dX10_sheet_0 : decode cX10_sheet 0 = .ok (.iload_n 1, 1) := by decide +kernel
theorem dX10_sheet_1 : decode cX10_sheet 1 = .ok (.invokestatic 440, 3) := by decide +kernel
theorem dX10_sheet_4 : decode cX10_sheet 4 = .ok (.ifCond .eq 27, 3) := by decide +kernel
theorem dX10_sheet_7 : decode cX10_sheet 7 = .ok (.iload_n 2, 1) := by decide +kernel
theorem dX10_sheet_8 : decode cX10_sheet 8 = .ok (.i2l, 1) := by decide +kernel
theorem dX10_sheet_9 : decode cX10_sheet 9 = .ok (.ldc2_w 273, 3) := by decide +kernel
theorem dX10_sheet_12 : decode cX10_sheet 12 = .ok (.ldc2_w 168, 3) := by decide +kernel
theorem dX10_sheet_15 : decode cX10_sheet 15 = .ok (.invokestatic 149, 3) := by decide +kernel
theorem dX10_sheet_18 : decode cX10_sheet 18 = .ok (.ifCond .eq 13, 3) := by decide +kernel
theorem dX10_sheet_21 : decode cX10_sheet 21 = .ok (.iload_n 2, 1) := by decide +kernel
theorem dX10_sheet_22 : decode cX10_sheet 22 = .ok (.ifCond .lt 12, 3) := by decide +kernel
