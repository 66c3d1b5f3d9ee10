theorem dX9_weighDoubts_13 : decode cX9_weighDoubts 13 = .ok (.iload_n 1, 1) := by decide +kernel
theorem dX9_weighDoubts_14 : decode cX9_weighDoubts 14 = .ok (.if_icmp .ge 56, 3) := by decide +kernel
theorem dX9_weighDoubts_17 : decode cX9_weighDoubts 17 = .ok (.aload_n 0, 1) := by decide +kernel
theorem dX9_weighDoubts_18 : decode cX9_weighDoubts 18 = .ok (.getfield 17, 3) := by decide +kernel
theorem dX9_weighDoubts_21 : decode cX9_weighDoubts 21 = .ok (.iload_n 2, 1) := by decide +kernel
theorem dX9_weighDoubts_22 : decode cX9_weighDoubts 22 = .ok (.aaload, 1) := by decide +kernel
theorem dX9_weighDoubts_23 : decode cX9_weighDoubts 23 = .ok (.astore_n 3, 1) := by decide +kernel
theorem dX9_weighDoubts_24 : decode cX9_weighDoubts 24 = .ok (.aload_n 0, 1) := by decide +kernel
theorem dX9_weighDoubts_25 : decode cX9_weighDoubts 25 = .ok (.getfield 74, 3) := by decide +kernel
theorem dX9_weighDoubts_28 : decode cX9_weighDoubts 28 = .ok (.iload_n 2, 1) := by decide +kernel
theorem dX9_weighDoubts_29 : decode cX9_weighDoubts 29 = .ok (.aload_n 3, 1) := by decide +kernel
theorem dX9_weighDoubts_30 : decode cX9_weighDoubts 30 = .ok (.ifnonnull 7, 3) := by decide +kernel
theorem dX9_weighDoubts_33 : decode cX9_weighDoubts 33 = .ok (.iconst 0, 1) := by decide +kernel
theorem dX9_weighDoubts_34 : decode cX9_weighDoubts 34 = .ok (.goto 9, 3) := by decide +kernel
theorem dX9_weighDoubts_37 : decode cX9_weighDoubts 37 = .ok (.aload_n 0, 1) := by decide +kernel
theorem dX9_weighDoubts_38 : decode cX9_weighDoubts 38 = .ok (.aload_n 3, 1) := by decide +kernel
theorem dX9_weighDoubts_39 : decode cX9_weighDoubts 39 = .ok (.iconst 0, 1) := by decide +kernel
theorem dX9_weighDoubts_40 : decode cX9_weighDoubts 40 = .ok (.invokevirtual 183, 3) := by decide +kernel
theorem dX9_weighDoubts_43 : decode cX9_weighDoubts 43 = .ok (.iastore, 1) := by decide +kernel
theorem dX9_weighDoubts_44 : decode cX9_weighDoubts 44 = .ok (.aload_n 0, 1) := by decide +kernel
theorem dX9_weighDoubts_45 : decode cX9_weighDoubts 45 = .ok (.getfield 77, 3) := by decide +kernel
theorem dX9_weighDoubts_48 : decode cX9_weighDoubts 48 = .ok (.iload_n 2, 1) := by decide +kernel
theorem dX9_weighDoubts_49 : decode cX9_weighDoubts 49 = .ok (.aload_n 3, 1) := by decide +kernel
theorem dX9_weighDoubts_50 : decode cX9_weighDoubts 50 = .ok (.ifnonnull 7, 3) := by decide +kernel
theorem dX9_weighDoubts_53 : decode cX9_weighDoubts 53 = .ok (.iconst 0, 1) := by decide +kernel
theorem dX9_weighDoubts_54 : decode cX9_weighDoubts 54 = .ok (.goto 9, 3) := by decide +kernel
theorem dX9_weighDoubts_57 : decode cX9_weighDoubts 57 = .ok (.aload_n 0, 1) := by decide +kernel
theorem dX9_weighDoubts_58 : decode cX9_weighDoubts 58 = .ok (.aload_n 3, 1) := by decide +kernel
theorem dX9_weighDoubts_59 : decode cX9_weighDoubts 59 = .ok (.iconst 2, 1) := by decide +kernel
theorem dX9_weighDoubts_60 : decode cX9_weighDoubts 60 = .ok (.invokevirtual 183, 3) := by decide +kernel
theorem dX9_weighDoubts_63 : decode cX9_weighDoubts 63 = .ok (.iastore, 1) := by decide +kernel
theorem dX9_weighDoubts_64 : decode cX9_weighDoubts 64 = .ok (.iinc 2 1, 3) := by decide +kernel
theorem dX9_weighDoubts_67 : decode cX9_weighDoubts 67 = .ok (.goto (-55), 3) := by decide +kernel
theorem dX9_weighDoubts_70 : decode cX9_weighDoubts 70 = .ok (.iload_n 1, 1) := by decide +kernel
theorem dX9_weighDoubts_71 : decode cX9_weighDoubts 71 = .ok (.ireturn, 1) := by decide +kernel
theorem dX9_lowestBit_0 : decode cX9_lowestBit 0 = .ok (.iconst 0, 1) := by decide +kernel
theorem dX9_lowestBit_1 : decode cX9_lowestBit 1 = .ok (.istore_n 1, 1) := by decide +kernel
theorem dX9_lowestBit_2 : decode cX9_lowestBit 2 = .ok (.iload_n 1, 1) := by decide +kernel
theorem dX9_lowestBit_3 : decode cX9_lowestBit 3 = .ok (.bipush 9, 2) := by decide +kernel
theorem dX9_lowestBit_5 : decode cX9_lowestBit 5 = .ok (.if_icmp .ge 17, 3) := by decide +kernel
theorem dX9_lowestBit_8 : decode cX9_lowestBit 8 = .ok (.iload_n 0, 1) := by decide +kernel
theorem dX9_lowestBit_9 : decode cX9_lowestBit 9 = .ok (.iload_n 1, 1) := by decide +kernel
theorem dX9_lowestBit_10 : decode cX9_lowestBit 10 = .ok (.ishr, 1) := by decide +kernel
theorem dX9_lowestBit_11 : decode cX9_lowestBit 11 = .ok (.iconst 1, 1) := by decide +kernel
theorem dX9_lowestBit_12 : decode cX9_lowestBit 12 = .ok (.iand, 1) := by decide +kernel
theorem dX9_lowestBit_13 : decode cX9_lowestBit 13 = .ok (.ifCond .ne 9, 3) := by decide +kernel
theorem dX9_lowestBit_16 : decode cX9_lowestBit 16 = .ok (.iinc 1 1, 3) := by decide +kernel
theorem dX9_lowestBit_19 : decode cX9_lowestBit 19 = .ok (.goto (-17), 3) := by decide +kernel
theorem dX9_lowestBit_22 : decode cX9_lowestBit 22 = .ok (.iload_n 1, 1) := by decide +kernel
theorem dX9_lowestBit_23 : decode cX9_lowestBit 23 = .ok (.ireturn, 1) := by decide +kernel
theorem dX9_sumBelow_0 : decode cX9_sumBelow 0 = .ok (.iconst 0, 1) := by decide +kernel
theorem dX9_sumBelow_1 : decode cX9_sumBelow 1 = .ok (.istore_n 2, 1) := by decide +kernel
theorem dX9_sumBelow_2 : decode cX9_sumBelow 2 = .ok (.iconst 0, 1) := by decide +kernel
theorem dX9_sumBelow_3 : decode cX9_sumBelow 3 = .ok (.istore_n 3, 1) := by decide +kernel
theorem dX9_sumBelow_4 : decode cX9_sumBelow 4 = .ok (.iload_n 3, 1) := by decide +kernel
theorem dX9_sumBelow_5 : decode cX9_sumBelow 5 = .ok (.iload_n 1, 1) := by decide +kernel
theorem dX9_sumBelow_6 : decode cX9_sumBelow 6 = .ok (.if_icmp .ge 21, 3) := by decide +kernel
theorem dX9_sumBelow_9 : decode cX9_sumBelow 9 = .ok (.iload_n 3, 1) := by decide +kernel
theorem dX9_sumBelow_10 : decode cX9_sumBelow 10 = .ok (.aload_n 0, 1) := by decide +kernel
theorem dX9_sumBelow_11 : decode cX9_sumBelow 11 = .ok (.arraylength, 1) := by decide +kernel
theorem dX9_sumBelow_12 : decode cX9_sumBelow 12 = .ok (.if_icmp .ge 15, 3) := by decide +kernel
theorem dX9_sumBelow_15 : decode cX9_sumBelow 15 = .ok (.iload_n 2, 1) := by decide +kernel
theorem dX9_sumBelow_16 : decode cX9_sumBelow 16 = .ok (.aload_n 0, 1) := by decide +kernel
theorem dX9_sumBelow_17 : decode cX9_sumBelow 17 = .ok (.iload_n 3, 1) := by decide +kernel
theorem dX9_sumBelow_18 : decode cX9_sumBelow 18 = .ok (.iaload, 1) := by decide +kernel
theorem dX9_sumBelow_19 : decode cX9_sumBelow 19 = .ok (.iadd, 1) := by decide +kernel
theorem dX9_sumBelow_20 : decode cX9_sumBelow 20 = .ok (.istore_n 2, 1) := by decide +kernel
theorem dX9_sumBelow_21 : decode cX9_sumBelow 21 = .ok (.iinc 3 1, 3) := by decide +kernel
theorem dX9_sumBelow_24 : decode cX9_sumBelow 24 = .ok (.goto (-20), 3) := by decide +kernel
theorem dX9_sumBelow_27 : decode cX9_sumBelow 27 = .ok (.iload_n 2, 1) := by decide +kernel
theorem dX9_sumBelow_28 : decode cX9_sumBelow 28 = .ok (.ireturn, 1) := by decide +kernel
theorem dX9_passOnAgain_0 : decode cX9_passOnAgain 0 = .ok (.iconst 0, 1) := by decide +kernel
theorem dX9_passOnAgain_1 : decode cX9_passOnAgain 1 = .ok (.istore_n 1, 1) := by decide +kernel
theorem dX9_passOnAgain_2 : decode cX9_passOnAgain 2 = .ok (.iload_n 1, 1) := by decide +kernel
theorem dX9_passOnAgain_3 : decode cX9_passOnAgain 3 = .ok (.aload_n 0, 1) := by decide +kernel
theorem dX9_passOnAgain_4 : decode cX9_passOnAgain 4 = .ok (.getfield 142, 3) := by decide +kernel
theorem dX9_passOnAgain_7 : decode cX9_passOnAgain 7 = .ok (.if_icmp .ge 24, 3) := by decide +kernel
theorem dX9_passOnAgain_10 : decode cX9_passOnAgain 10 = .ok (.aload_n 0, 1) := by decide +kernel
theorem dX9_passOnAgain_11 : decode cX9_passOnAgain 11 = .ok (.getfield 17, 3) := by decide +kernel
theorem dX9_passOnAgain_14 : decode cX9_passOnAgain 14 = .ok (.iload_n 1, 1) := by decide +kernel
theorem dX9_passOnAgain_15 : decode cX9_passOnAgain 15 = .ok (.aaload, 1) := by decide +kernel
theorem dX9_passOnAgain_16 : decode cX9_passOnAgain 16 = .ok (.astore_n 2, 1) := by decide +kernel
theorem dX9_passOnAgain_17 : decode cX9_passOnAgain 17 = .ok (.aload_n 2, 1) := by decide +kernel
theorem dX9_passOnAgain_18 : decode cX9_passOnAgain 18 = .ok (.ifnull 7, 3) := by decide +kernel
theorem dX9_passOnAgain_21 : decode cX9_passOnAgain 21 = .ok (.aload_n 2, 1) := by decide +kernel
theorem dX9_passOnAgain_22 : decode cX9_passOnAgain 22 = .ok (.invokevirtual 405, 3) := by decide +kernel
theorem dX9_passOnAgain_25 : decode cX9_passOnAgain 25 = .ok (.iinc 1 1, 3) := by decide +kernel
theorem dX9_passOnAgain_28 : decode cX9_passOnAgain 28 = .ok (.goto (-26), 3) := by decide +kernel
theorem dX9_passOnAgain_31 : decode cX9_passOnAgain 31 = .ok (.iconst 0, 1) := by decide +kernel
theorem dX9_passOnAgain_32 : decode cX9_passOnAgain 32 = .ok (.istore_n 1, 1) := by decide +kernel
theorem dX9_passOnAgain_33 : decode cX9_passOnAgain 33 = .ok (.iload_n 1, 1) := by decide +kernel
theorem dX9_passOnAgain_34 : decode cX9_passOnAgain 34 = .ok (.aload_n 0, 1) := by decide +kernel
theorem dX9_passOnAgain_35 : decode cX9_passOnAgain 35 = .ok (.getfield 37, 3) := by decide +kernel
theorem dX9_passOnAgain_38 : decode cX9_passOnAgain 38 = .ok (.getfield 199, 3) := by decide +kernel
theorem dX9_passOnAgain_41 : decode cX9_passOnAgain 41 = .ok (.if_icmp .ge 58, 3) := by decide +kernel
theorem dX9_passOnAgain_44 : decode cX9_passOnAgain 44 = .ok (.aload_n 0, 1) := by decide +kernel
theorem dX9_passOnAgain_45 : decode cX9_passOnAgain 45 = .ok (.aload_n 0, 1) := by decide +kernel
theorem dX9_passOnAgain_46 : decode cX9_passOnAgain 46 = .ok (.getfield 37, 3) := by decide +kernel
theorem dX9_passOnAgain_49 : decode cX9_passOnAgain 49 = .ok (.getfield 286, 3) := by decide +kernel
theorem dX9_passOnAgain_52 : decode cX9_passOnAgain 52 = .ok (.iload_n 1, 1) := by decide +kernel
theorem dX9_passOnAgain_53 : decode cX9_passOnAgain 53 = .ok (.iaload, 1) := by decide +kernel
theorem dX9_passOnAgain_54 : decode cX9_passOnAgain 54 = .ok (.invokevirtual 148, 3) := by decide +kernel
theorem dX9_passOnAgain_57 : decode cX9_passOnAgain 57 = .ok (.astore_n 2, 1) := by decide +kernel
theorem dX9_passOnAgain_58 : decode cX9_passOnAgain 58 = .ok (.aload_n 2, 1) := by decide +kernel
theorem dX9_passOnAgain_59 : decode cX9_passOnAgain 59 = .ok (.ifnull 34, 3) := by decide +kernel
theorem dX9_passOnAgain_62 : decode cX9_passOnAgain 62 = .ok (.aload_n 2, 1) := by decide +kernel
theorem dX9_passOnAgain_63 : decode cX9_passOnAgain 63 = .ok (.aload_n 0, 1) := by decide +kernel
theorem dX9_passOnAgain_64 : decode cX9_passOnAgain 64 = .ok (.getfield 37, 3) := by decide +kernel
theorem dX9_passOnAgain_67 : decode cX9_passOnAgain 67 = .ok (.getfield 280, 3) := by decide +kernel
theorem dX9_passOnAgain_70 : decode cX9_passOnAgain 70 = .ok (.iload_n 1, 1) := by decide +kernel
theorem dX9_passOnAgain_71 : decode cX9_passOnAgain 71 = .ok (.iaload, 1) := by decide +kernel
theorem dX9_passOnAgain_72 : decode cX9_passOnAgain 72 = .ok (.aload_n 0, 1) := by decide +kernel
theorem dX9_passOnAgain_73 : decode cX9_passOnAgain 73 = .ok (.getfield 37, 3) := by decide +kernel
theorem dX9_passOnAgain_76 : decode cX9_passOnAgain 76 = .ok (.getfield 283, 3) := by decide +kernel
theorem dX9_passOnAgain_79 : decode cX9_passOnAgain 79 = .ok (.iload_n 1, 1) := by decide +kernel
theorem dX9_passOnAgain_80 : decode cX9_passOnAgain 80 = .ok (.iaload, 1) := by decide +kernel
theorem dX9_passOnAgain_81 : decode cX9_passOnAgain 81 = .ok (.aload_n 0, 1) := by decide +kernel
theorem dX9_passOnAgain_82 : decode cX9_passOnAgain 82 = .ok (.getfield 37, 3) := by decide +kernel
theorem dX9_passOnAgain_85 : decode cX9_passOnAgain 85 = .ok (.getfield 307, 3) := by decide +kernel
theorem dX9_passOnAgain_88 : decode cX9_passOnAgain 88 = .ok (.iload_n 1, 1) := by decide +kernel
theorem dX9_passOnAgain_89 : decode cX9_passOnAgain 89 = .ok (.iaload, 1) := by decide +kernel
theorem dX9_passOnAgain_90 : decode cX9_passOnAgain 90 = .ok (.invokevirtual 205, 3) := by decide +kernel
theorem dX9_passOnAgain_93 : decode cX9_passOnAgain 93 = .ok (.iinc 1 1, 3) := by decide +kernel
theorem dX9_passOnAgain_96 : decode cX9_passOnAgain 96 = .ok (.goto (-63), 3) := by decide +kernel
theorem dX9_passOnAgain_99 : decode cX9_passOnAgain 99 = .ok (.return_, 1) := by decide +kernel
theorem dX10_in_0 : decode cX10_in 0 = .ok (.lload_n 0, 1) := by decide +kernel
theorem dX10_in_1 : decode cX10_in 1 = .ok (.lload_n 2, 1) := by decide +kernel
theorem dX10_in_2 : decode cX10_in 2 = .ok (.lcmp, 1) := by decide +kernel
theorem dX10_in_3 : decode cX10_in 3 = .ok (.ifCond .lt 14, 3) := by decide +kernel
theorem dX10_in_6 : decode cX10_in 6 = .ok (.lload_n 0, 1) := by decide +kernel
theorem dX10_in_7 : decode cX10_in 7 = .ok (.lload 4, 2) := by decide +kernel
theorem dX10_in_9 : decode cX10_in 9 = .ok (.lcmp, 1) := by decide +kernel
theorem dX10_in_10 : decode cX10_in 10 = .ok (.ifCond .gt 7, 3) := by decide +kernel
theorem dX10_in_13 : decode cX10_in 13 = .ok (.iconst 1, 1) := by decide +kernel
theorem dX10_in_14 : decode cX10_in 14 = .ok (.goto 4, 3) := by decide +kernel
theorem dX10_in_17 : decode cX10_in 17 = .ok (.iconst 0, 1) := by decide +kernel
theorem dX10_in_18 : decode cX10_in 18 = .ok (.ireturn, 1) := by decide +kernel
theorem dX10_init_0 : decode cX10_init 0 = .ok (.aload_n 0, 1) := by decide +kernel
theorem dX10_init_1 : decode cX10_init 1 = .ok (.invokespecial 7, 3) := by decide +kernel
theorem dX10_init_4 : decode cX10_init 4 = .ok (.aload_n 0, 1) := by decide +kernel
theorem dX10_init_5 : decode cX10_init 5 = .ok (.sipush 960, 3) := by decide +kernel
theorem dX10_init_8 : decode cX10_init 8 = .ok (.newarray .int, 2) := by decide +kernel
theorem dX10_init_10 : decode cX10_init 10 = .ok (.putfield 13, 3) := by decide +kernel
theorem dX10_init_13 : decode cX10_init 13 = .ok (.aload_n 0, 1) := by decide +kernel
theorem dX10_init_14 : decode cX10_init 14 = .ok (.bipush 6, 2) := by decide +kernel
theorem dX10_init_16 : decode cX10_init 16 = .ok (.newarray .int, 2) := by decide +kernel
theorem dX10_init_18 : decode cX10_init 18 = .ok (.putfield 17, 3) := by decide +kernel
theorem dX10_init_21 : decode cX10_init 21 = .ok (.aload_n 0, 1) := by decide +kernel
theorem dX10_init_22 : decode cX10_init 22 = .ok (.sipush 160, 3) := by decide +kernel
theorem dX10_init_25 : decode cX10_init 25 = .ok (.newarray .int, 2) := by decide +kernel
theorem dX10_init_27 : decode cX10_init 27 = .ok (.putfield 20, 3) := by decide +kernel
theorem dX10_init_30 : decode cX10_init 30 = .ok (.aload_n 0, 1) := by decide +kernel
theorem dX10_init_31 : decode cX10_init 31 = .ok (.bipush 8, 2) := by decide +kernel
theorem dX10_init_33 : decode cX10_init 33 = .ok (.newarray .int, 2) := by decide +kernel
theorem dX10_init_35 : decode cX10_init 35 = .ok (.putfield 23, 3) := by decide +kernel
theorem dX10_init_38 : decode cX10_init 38 = .ok (.aload_n 0, 1) := by decide +kernel
theorem dX10_init_39 : decode cX10_init 39 = .ok (.bipush 8, 2) := by decide +kernel
theorem dX10_init_41 : decode cX10_init 41 = .ok (.newarray .int, 2) := by decide +kernel
theorem dX10_init_43 : decode cX10_init 43 = .ok (.putfield 26, 3) := by decide +kernel
theorem dX10_init_46 : decode cX10_init 46 = .ok (.aload_n 0, 1) := by decide +kernel
theorem dX10_init_47 : decode cX10_init 47 = .ok (.bipush 8, 2) := by decide +kernel
theorem dX10_init_49 : decode cX10_init 49 = .ok (.newarray .int, 2) := by decide +kernel
theorem dX10_init_51 : decode cX10_init 51 = .ok (.putfield 29, 3) := by decide +kernel
theorem dX10_init_54 : decode cX10_init 54 = .ok (.aload_n 0, 1) := by decide +kernel
theorem dX10_init_55 : decode cX10_init 55 = .ok (.bipush 8, 2) := by decide +kernel
theorem dX10_init_57 : decode cX10_init 57 = .ok (.newarray .int, 2) := by decide +kernel
theorem dX10_init_59 : decode cX10_init 59 = .ok (.putfield 32, 3) := by decide +kernel
theorem dX10_init_62 : decode cX10_init 62 = .ok (.aload_n 0, 1) := by decide +kernel
theorem dX10_init_63 : decode cX10_init 63 = .ok (.bipush 8, 2) := by decide +kernel
theorem dX10_init_65 : decode cX10_init 65 = .ok (.newarray .int, 2) := by decide +kernel
theorem dX10_init_67 : decode cX10_init 67 = .ok (.putfield 35, 3) := by decide +kernel
theorem dX10_init_70 : decode cX10_init 70 = .ok (.aload_n 0, 1) := by decide +kernel
theorem dX10_init_71 : decode cX10_init 71 = .ok (.bipush 12, 2) := by decide +kernel
theorem dX10_init_73 : decode cX10_init 73 = .ok (.newarray .int, 2) := by decide +kernel
theorem dX10_init_75 : decode cX10_init 75 = .ok (.putfield 38, 3) := by decide +kernel
theorem dX10_init_78 : decode cX10_init 78 = .ok (.aload_n 0, 1) := by decide +kernel
theorem dX10_init_79 : decode cX10_init 79 = .ok (.bipush 12, 2) := by decide +kernel
theorem dX10_init_81 : decode cX10_init 81 = .ok (.newarray .int, 2) := by decide +kernel
theorem dX10_init_83 : decode cX10_init 83 = .ok (.putfield 41, 3) := by decide +kernel
theorem dX10_init_86 : decode cX10_init 86 = .ok (.aload_n 0, 1) := by decide +kernel
theorem dX10_init_87 : decode cX10_init 87 = .ok (.iconst 3, 1) := by decide +kernel
theorem dX10_init_88 : decode cX10_init 88 = .ok (.newarray .int, 2) := by decide +kernel
theorem dX10_init_90 : decode cX10_init 90 = .ok (.putfield 44, 3) := by decide +kernel
theorem dX10_init_93 : decode cX10_init 93 = .ok (.aload_n 0, 1) := by decide +kernel
theorem dX10_init_94 : decode cX10_init 94 = .ok (.bipush 24, 2) := by decide +kernel
theorem dX10_init_96 : decode cX10_init 96 = .ok (.newarray .int, 2) := by decide +kernel
theorem dX10_init_98 : decode cX10_init 98 = .ok (.putfield 47, 3) := by decide +kernel
theorem dX10_init_101 : decode cX10_init 101 = .ok (.aload_n 0, 1) := by decide +kernel
theorem dX10_init_102 : decode cX10_init 102 = .ok (.bipush 24, 2) := by decide +kernel
theorem dX10_init_104 : decode cX10_init 104 = .ok (.newarray .int, 2) := by decide +kernel
theorem dX10_init_106 : decode cX10_init 106 = .ok (.putfield 50, 3) := by decide +kernel
theorem dX10_init_109 : decode cX10_init 109 = .ok (.aload_n 0, 1) := by decide +kernel
theorem dX10_init_110 : decode cX10_init 110 = .ok (.bipush 24, 2) := by decide +kernel
theorem dX10_init_112 : decode cX10_init 112 = .ok (.newarray .int, 2) := by decide +kernel
theorem dX10_init_114 : decode cX10_init 114 = .ok (.putfield 53, 3) := by decide +kernel
theorem dX10_init_117 : decode cX10_init 117 = .ok (.aload_n 0, 1) := by decide +kernel
theorem dX10_init_118 : decode cX10_init 118 = .ok (.bipush 24, 2) := by decide +kernel
theorem dX10_init_120 : decode cX10_init 120 = .ok (.newarray .int, 2) := by decide +kernel
theorem dX10_init_122 : decode cX10_init 122 = .ok (.putfield 56, 3) := by decide +kernel
theorem dX10_init_125 : decode cX10_init 125 = .ok (.aload_n 0, 1) := by decide +kernel
theorem dX10_init_126 : decode cX10_init 126 = .ok (.bipush 40, 2) := by decide +kernel
theorem dX10_init_128 : decode cX10_init 128 = .ok (.newarray .int, 2) := by decide +kernel
theorem dX10_init_130 : decode cX10_init 130 = .ok (.putfield 59, 3) := by decide +kernel
theorem dX10_init_133 : decode cX10_init 133 = .ok (.aload_n 0, 1) := by decide +kernel
theorem dX10_init_134 : decode cX10_init 134 = .ok (.bipush 40, 2) := by decide +kernel
theorem dX10_init_136 : decode cX10_init 136 = .ok (.newarray .int, 2) := by decide +kernel
theorem dX10_init_138 : decode cX10_init 138 = .ok (.putfield 62, 3) := by decide +kernel
theorem dX10_init_141 : decode cX10_init 141 = .ok (.aload_n 0, 1) := by decide +kernel
theorem dX10_init_142 : decode cX10_init 142 = .ok (.bipush 40, 2) := by decide +kernel
theorem dX10_init_144 : decode cX10_init 144 = .ok (.newarray .int, 2) := by decide +kernel
theorem dX10_init_146 : decode cX10_init 146 = .ok (.putfield 65, 3) := by decide +kernel
theorem dX10_init_149 : decode cX10_init 149 = .ok (.aload_n 0, 1) := by decide +kernel
theorem dX10_init_150 : decode cX10_init 150 = .ok (.bipush 40, 2) := by decide +kernel
theorem dX10_init_152 : decode cX10_init 152 = .ok (.newarray .int, 2) := by decide +kernel
theorem dX10_init_154 : decode cX10_init 154 = .ok (.putfield 68, 3) := by decide +kernel
theorem dX10_init_157 : decode cX10_init 157 = .ok (.aload_n 0, 1) := by decide +kernel
theorem dX10_init_158 : decode cX10_init 158 = .ok (.bipush 40, 2) := by decide +kernel
theorem dX10_init_160 : decode cX10_init 160 = .ok (.newarray .int, 2) := by decide +kernel
theorem dX10_init_162 : decode cX10_init 162 = .ok (.putfield 71, 3) := by decide +kernel
theorem dX10_init_165 : decode cX10_init 165 = .ok (.aload_n 0, 1) := by decide +kernel
theorem dX10_init_166 : decode cX10_init 166 = .ok (.bipush 6, 2) := by decide +kernel
theorem dX10_init_168 : decode cX10_init 168 = .ok (.newarray .int, 2) := by decide +kernel
theorem dX10_init_170 : decode cX10_init 170 = .ok (.putfield 74, 3) := by decide +kernel
theorem dX10_init_173 : decode cX10_init 173 = .ok (.aload_n 0, 1) := by decide +kernel
theorem dX10_init_174 : decode cX10_init 174 = .ok (.bipush 72, 2) := by decide +kernel
theorem dX10_init_176 : decode cX10_init 176 = .ok (.newarray .int, 2) := by decide +kernel
theorem dX10_init_178 : decode cX10_init 178 = .ok (.putfield 77, 3) := by decide +kernel
theorem dX10_init_181 : decode cX10_init 181 = .ok (.aload_n 0, 1) := by decide +kernel
theorem dX10_init_182 : decode cX10_init 182 = .ok (.bipush 72, 2) := by decide +kernel
theorem dX10_init_184 : decode cX10_init 184 = .ok (.newarray .int, 2) := by decide +kernel
theorem dX10_init_186 : decode cX10_init 186 = .ok (.putfield 80, 3) := by decide +kernel
theorem dX10_init_189 : decode cX10_init 189 = .ok (.aload_n 0, 1) := by decide +kernel
theorem dX10_init_190 : decode cX10_init 190 = .ok (.bipush 72, 2) := by decide +kernel
theorem dX10_init_192 : decode cX10_init 192 = .ok (.newarray .int, 2) := by decide +kernel
theorem dX10_init_194 : decode cX10_init 194 = .ok (.putfield 83, 3) := by decide +kernel
theorem dX10_init_197 : decode cX10_init 197 = .ok (.aload_n 0, 1) := by decide +kernel
theorem dX10_init_198 : decode cX10_init 198 = .ok (.bipush 10, 2) := by decide +kernel
theorem dX10_init_200 : decode cX10_init 200 = .ok (.newarray .int, 2) := by decide +kernel
theorem dX10_init_202 : decode cX10_init 202 = .ok (.putfield 86, 3) := by decide +kernel
theorem dX10_init_205 : decode cX10_init 205 = .ok (.aload_n 0, 1) := by decide +kernel
theorem dX10_init_206 : decode cX10_init 206 = .ok (.bipush 10, 2) := by decide +kernel
theorem dX10_init_208 : decode cX10_init 208 = .ok (.newarray .int, 2) := by decide +kernel
theorem dX10_init_210 : decode cX10_init 210 = .ok (.putfield 89, 3) := by decide +kernel
theorem dX10_init_213 : decode cX10_init 213 = .ok (.aload_n 0, 1) := by decide +kernel
theorem dX10_init_214 : decode cX10_init 214 = .ok (.bipush 8, 2) := by decide +kernel
theorem dX10_init_216 : decode cX10_init 216 = .ok (.newarray .int, 2) := by decide +kernel
theorem dX10_init_218 : decode cX10_init 218 = .ok (.putfield 92, 3) := by decide +kernel
theorem dX10_init_221 : decode cX10_init 221 = .ok (.aload_n 0, 1) := by decide +kernel
theorem dX10_init_222 : decode cX10_init 222 = .ok (.bipush 12, 2) := by decide +kernel
theorem dX10_init_224 : decode cX10_init 224 = .ok (.newarray .int, 2) := by decide +kernel
theorem dX10_init_226 : decode cX10_init 226 = .ok (.putfield 95, 3) := by decide +kernel
theorem dX10_init_229 : decode cX10_init 229 = .ok (.aload_n 0, 1) := by decide +kernel
theorem dX10_init_230 : decode cX10_init 230 = .ok (.bipush 12, 2) := by decide +kernel
theorem dX10_init_232 : decode cX10_init 232 = .ok (.newarray .int, 2) := by decide +kernel
theorem dX10_init_234 : decode cX10_init 234 = .ok (.putfield 98, 3) := by decide +kernel
theorem dX10_init_237 : decode cX10_init 237 = .ok (.aload_n 0, 1) := by decide +kernel
theorem dX10_init_238 : decode cX10_init 238 = .ok (.iconst 3, 1) := by decide +kernel
theorem dX10_init_239 : decode cX10_init 239 = .ok (.newarray .int, 2) := by decide +kernel
theorem dX10_init_241 : decode cX10_init 241 = .ok (.putfield 101, 3) := by decide +kernel
theorem dX10_init_244 : decode cX10_init 244 = .ok (.aload_n 0, 1) := by decide +kernel
theorem dX10_init_245 : decode cX10_init 245 = .ok (.iconst 4, 1) := by decide +kernel
theorem dX10_init_246 : decode cX10_init 246 = .ok (.newarray .boolean, 2) := by decide +kernel
theorem dX10_init_248 : decode cX10_init 248 = .ok (.putfield 104, 3) := by decide +kernel
theorem dX10_init_251 : decode cX10_init 251 = .ok (.aload_n 0, 1) := by decide +kernel
theorem dX10_init_252 : decode cX10_init 252 = .ok (.iconst 4, 1) := by decide +kernel
theorem dX10_init_253 : decode cX10_init 253 = .ok (.newarray .int, 2) := by decide +kernel
theorem dX10_init_255 : decode cX10_init 255 = .ok (.putfield 108, 3) := by decide +kernel
theorem dX10_init_258 : decode cX10_init 258 = .ok (.aload_n 0, 1) := by decide +kernel
theorem dX10_init_259 : decode cX10_init 259 = .ok (.iconst 4, 1) := by decide +kernel
theorem dX10_init_260 : decode cX10_init 260 = .ok (.newarray .int, 2) := by decide +kernel
theorem dX10_init_262 : decode cX10_init 262 = .ok (.putfield 111, 3) := by decide +kernel
theorem dX10_init_265 : decode cX10_init 265 = .ok (.aload_n 0, 1) := by decide +kernel
theorem dX10_init_266 : decode cX10_init 266 = .ok (.sipush 160, 3) := by decide +kernel
theorem dX10_init_269 : decode cX10_init 269 = .ok (.newarray .int, 2) := by decide +kernel
theorem dX10_init_271 : decode cX10_init 271 = .ok (.putfield 114, 3) := by decide +kernel
theorem dX10_init_274 : decode cX10_init 274 = .ok (.aload_n 0, 1) := by decide +kernel
theorem dX10_init_275 : decode cX10_init 275 = .ok (.iconst 0, 1) := by decide +kernel
theorem dX10_init_276 : decode cX10_init 276 = .ok (.ldc2_w 117, 3) := by decide +kernel
theorem dX10_init_279 : decode cX10_init 279 = .ok (.invokevirtual 119, 3) := by decide +kernel
theorem dX10_init_282 : decode cX10_init 282 = .ok (.aload_n 0, 1) := by decide +kernel
theorem dX10_init_283 : decode cX10_init 283 = .ok (.bipush 8, 2) := by decide +kernel
theorem dX10_init_285 : decode cX10_init 285 = .ok (.ldc2_w 123, 3) := by decide +kernel
theorem dX10_init_288 : decode cX10_init 288 = .ok (.invokevirtual 119, 3) := by decide +kernel
theorem dX10_init_291 : decode cX10_init 291 = .ok (.aload_n 0, 1) := by decide +kernel
theorem dX10_init_292 : decode cX10_init 292 = .ok (.bipush 16, 2) := by decide +kernel
theorem dX10_init_294 : decode cX10_init 294 = .ok (.ldc2_w 125, 3) := by decide +kernel
theorem dX10_init_297 : decode cX10_init 297 = .ok (.invokevirtual 119, 3) := by decide +kernel
theorem dX10_init_300 : decode cX10_init 300 = .ok (.aload_n 0, 1) := by decide +kernel
theorem dX10_init_301 : decode cX10_init 301 = .ok (.bipush 24, 2) := by decide +kernel
theorem dX10_init_303 : decode cX10_init 303 = .ok (.ldc2_w 127, 3) := by decide +kernel
theorem dX10_init_306 : decode cX10_init 306 = .ok (.invokevirtual 119, 3) := by decide +kernel
theorem dX10_init_309 : decode cX10_init 309 = .ok (.aload_n 0, 1) := by decide +kernel
theorem dX10_init_310 : decode cX10_init 310 = .ok (.bipush 32, 2) := by decide +kernel
theorem dX10_init_312 : decode cX10_init 312 = .ok (.ldc2_w 129, 3) := by decide +kernel
theorem dX10_init_315 : decode cX10_init 315 = .ok (.invokevirtual 119, 3) := by decide +kernel
theorem dX10_init_318 : decode cX10_init 318 = .ok (.aload_n 0, 1) := by decide +kernel
theorem dX10_init_319 : decode cX10_init 319 = .ok (.bipush 40, 2) := by decide +kernel
theorem dX10_init_321 : decode cX10_init 321 = .ok (.ldc2_w 131, 3) := by decide +kernel
theorem dX10_init_324 : decode cX10_init 324 = .ok (.invokevirtual 119, 3) := by decide +kernel
theorem dX10_init_327 : decode cX10_init 327 = .ok (.aload_n 0, 1) := by decide +kernel
theorem dX10_init_328 : decode cX10_init 328 = .ok (.bipush 48, 2) := by decide +kernel
theorem dX10_init_330 : decode cX10_init 330 = .ok (.ldc2_w 133, 3) := by decide +kernel
theorem dX10_init_333 : decode cX10_init 333 = .ok (.invokevirtual 119, 3) := by decide +kernel
theorem dX10_init_336 : decode cX10_init 336 = .ok (.aload_n 0, 1) := by decide +kernel
theorem dX10_init_337 : decode cX10_init 337 = .ok (.bipush 56, 2) := by decide +kernel
theorem dX10_init_339 : decode cX10_init 339 = .ok (.ldc2_w 135, 3) := by decide +kernel
theorem dX10_init_342 : decode cX10_init 342 = .ok (.invokevirtual 119, 3) := by decide +kernel
theorem dX10_init_345 : decode cX10_init 345 = .ok (.aload_n 0, 1) := by decide +kernel
theorem dX10_init_346 : decode cX10_init 346 = .ok (.bipush 64, 2) := by decide +kernel
theorem dX10_init_348 : decode cX10_init 348 = .ok (.ldc2_w 137, 3) := by decide +kernel
theorem dX10_init_351 : decode cX10_init 351 = .ok (.invokevirtual 119, 3) := by decide +kernel
theorem dX10_init_354 : decode cX10_init 354 = .ok (.aload_n 0, 1) := by decide +kernel
theorem dX10_init_355 : decode cX10_init 355 = .ok (.bipush 72, 2) := by decide +kernel
theorem dX10_init_357 : decode cX10_init 357 = .ok (.ldc2_w 139, 3) := by decide +kernel
theorem dX10_init_360 : decode cX10_init 360 = .ok (.invokevirtual 119, 3) := by decide +kernel
theorem dX10_init_363 : decode cX10_init 363 = .ok (.aload_n 0, 1) := by decide +kernel
theorem dX10_init_364 : decode cX10_init 364 = .ok (.getfield 17, 3) := by decide +kernel
theorem dX10_init_367 : decode cX10_init 367 = .ok (.iconst 0, 1) := by decide +kernel
theorem dX10_init_368 : decode cX10_init 368 = .ok (.bipush 80, 2) := by decide +kernel
theorem dX10_init_370 : decode cX10_init 370 = .ok (.iastore, 1) := by decide +kernel
theorem dX10_init_371 : decode cX10_init 371 = .ok (.aload_n 0, 1) := by decide +kernel
theorem dX10_init_372 : decode cX10_init 372 = .ok (.iconst 1, 1) := by decide +kernel
theorem dX10_init_373 : decode cX10_init 373 = .ok (.putfield 141, 3) := by decide +kernel
theorem dX10_init_376 : decode cX10_init 376 = .ok (.iconst 0, 1) := by decide +kernel
theorem dX10_init_377 : decode cX10_init 377 = .ok (.istore_n 1, 1) := by decide +kernel
theorem dX10_init_378 : decode cX10_init 378 = .ok (.iload_n 1, 1) := by decide +kernel
theorem dX10_init_379 : decode cX10_init 379 = .ok (.bipush 12, 2) := by decide +kernel
theorem dX10_init_381 : decode cX10_init 381 = .ok (.if_icmp .ge 17, 3) := by decide +kernel
theorem dX10_init_384 : decode cX10_init 384 = .ok (.aload_n 0, 1) := by decide +kernel
theorem dX10_init_385 : decode cX10_init 385 = .ok (.getfield 41, 3) := by decide +kernel
theorem dX10_init_388 : decode cX10_init 388 = .ok (.iload_n 1, 1) := by decide +kernel
theorem dX10_init_389 : decode cX10_init 389 = .ok (.bipush 99, 2) := by decide +kernel
theorem dX10_init_391 : decode cX10_init 391 = .ok (.iastore, 1) := by decide +kernel
theorem dX10_init_392 : decode cX10_init 392 = .ok (.iinc 1 1, 3) := by decide +kernel
theorem dX10_init_395 : decode cX10_init 395 = .ok (.goto (-17), 3) := by decide +kernel
theorem dX10_init_398 : decode cX10_init 398 = .ok (.iconst 0, 1) := by decide +kernel
theorem dX10_init_399 : decode cX10_init 399 = .ok (.istore_n 1, 1) := by decide +kernel
theorem dX10_init_400 : decode cX10_init 400 = .ok (.iload_n 1, 1) := by decide +kernel
theorem dX10_init_401 : decode cX10_init 401 = .ok (.iconst 3, 1) := by decide +kernel
theorem dX10_init_402 : decode cX10_init 402 = .ok (.if_icmp .ge 17, 3) := by decide +kernel
theorem dX10_init_405 : decode cX10_init 405 = .ok (.aload_n 0, 1) := by decide +kernel
theorem dX10_init_406 : decode cX10_init 406 = .ok (.getfield 44, 3) := by decide +kernel
theorem dX10_init_409 : decode cX10_init 409 = .ok (.iload_n 1, 1) := by decide +kernel
theorem dX10_init_410 : decode cX10_init 410 = .ok (.bipush 100, 2) := by decide +kernel
theorem dX10_init_412 : decode cX10_init 412 = .ok (.iastore, 1) := by decide +kernel
theorem dX10_init_413 : decode cX10_init 413 = .ok (.iinc 1 1, 3) := by decide +kernel
theorem dX10_init_416 : decode cX10_init 416 = .ok (.goto (-16), 3) := by decide +kernel
theorem dX10_init_419 : decode cX10_init 419 = .ok (.return_, 1) := by decide +kernel
theorem dX10_spell_0 : decode cX10_spell 0 = .ok (.iconst 0, 1) := by decide +kernel
theorem dX10_spell_1 : decode cX10_spell 1 = .ok (.istore 4, 2) := by decide +kernel
theorem dX10_spell_3 : decode cX10_spell 3 = .ok (.iload 4, 2) := by decide +kernel
theorem dX10_spell_5 : decode cX10_spell 5 = .ok (.bipush 8, 2) := by decide +kernel
theorem dX10_spell_7 : decode cX10_spell 7 = .ok (.if_icmp .ge 33, 3) := by decide +kernel
theorem dX10_spell_10 : decode cX10_spell 10 = .ok (.aload_n 0, 1) := by decide +kernel
theorem dX10_spell_11 : decode cX10_spell 11 = .ok (.getfield 13, 3) := by decide +kernel
theorem dX10_spell_14 : decode cX10_spell 14 = .ok (.iload_n 1, 1) := by decide +kernel
theorem dX10_spell_15 : decode cX10_spell 15 = .ok (.iload 4, 2) := by decide +kernel
theorem dX10_spell_17 : decode cX10_spell 17 = .ok (.iadd, 1) := by decide +kernel
theorem dX10_spell_18 : decode cX10_spell 18 = .ok (.lload_n 2, 1) := by decide +kernel
theorem dX10_spell_19 : decode cX10_spell 19 = .ok (.bipush 56, 2) := by decide +kernel
theorem dX10_spell_21 : decode cX10_spell 21 = .ok (.bipush 8, 2) := by decide +kernel
theorem dX10_spell_23 : decode cX10_spell 23 = .ok (.iload 4, 2) := by decide +kernel
theorem dX10_spell_25 : decode cX10_spell 25 = .ok (.imul, 1) := by decide +kernel
theorem dX10_spell_26 : decode cX10_spell 26 = .ok (.isub, 1) := by decide +kernel
theorem dX10_spell_27 : decode cX10_spell 27 = .ok (.lshr, 1) := by decide +kernel
theorem dX10_spell_28 : decode cX10_spell 28 = .ok (.ldc2_w 144, 3) := by decide +kernel
theorem dX10_spell_31 : decode cX10_spell 31 = .ok (.land, 1) := by decide +kernel
theorem dX10_spell_32 : decode cX10_spell 32 = .ok (.l2i, 1) := by decide +kernel
theorem dX10_spell_33 : decode cX10_spell 33 = .ok (.iastore, 1) := by decide +kernel
theorem dX10_spell_34 : decode cX10_spell 34 = .ok (.iinc 4 1, 3) := by decide +kernel
theorem dX10_spell_37 : decode cX10_spell 37 = .ok (.goto (-34), 3) := by decide +kernel
theorem dX10_spell_40 : decode cX10_spell 40 = .ok (.return_, 1) := by decide +kernel
theorem dX10_isWine_0 : decode cX10_isWine 0 = .ok (.iload_n 1, 1) := by decide +kernel
theorem dX10_isWine_1 : decode cX10_isWine 1 = .ok (.i2l, 1) := by decide +kernel
theorem dX10_isWine_2 : decode cX10_isWine 2 = .ok (.lconst 0, 1) := by decide +kernel
theorem dX10_isWine_3 : decode cX10_isWine 3 = .ok (.aload_n 0, 1) := by decide +kernel
theorem dX10_isWine_4 : decode cX10_isWine 4 = .ok (.getfield 146, 3) := by decide +kernel
theorem dX10_isWine_7 : decode cX10_isWine 7 = .ok (.iconst 1, 1) := by decide +kernel
theorem dX10_isWine_8 : decode cX10_isWine 8 = .ok (.isub, 1) := by decide +kernel
theorem dX10_isWine_9 : decode cX10_isWine 9 = .ok (.i2l, 1) := by decide +kernel
theorem dX10_isWine_10 : decode cX10_isWine 10 = .ok (.invokestatic 149, 3) := by decide +kernel
theorem dX10_isWine_13 : decode cX10_isWine 13 = .ok (.ireturn, 1) := by decide +kernel
theorem dX10_partOf_0 : decode cX10_partOf 0 = .ok (.iload_n 1, 1) := by decide +kernel
theorem dX10_partOf_1 : decode cX10_partOf 1 = .ok (.ifCond .ne 10, 3) := by decide +kernel
theorem dX10_partOf_4 : decode cX10_partOf 4 = .ok (.iload_n 0, 1) := by decide +kernel
theorem dX10_partOf_5 : decode cX10_partOf 5 = .ok (.bipush 100, 2) := by decide +kernel
theorem dX10_partOf_7 : decode cX10_partOf 7 = .ok (.idiv, 1) := by decide +kernel
theorem dX10_partOf_8 : decode cX10_partOf 8 = .ok (.goto 22, 3) := by decide +kernel
theorem dX10_partOf_11 : decode cX10_partOf 11 = .ok (.iload_n 1, 1) := by decide +kernel
theorem dX10_partOf_12 : decode cX10_partOf 12 = .ok (.iconst 1, 1) := by decide +kernel
theorem dX10_partOf_13 : decode cX10_partOf 13 = .ok (.if_icmp .ne 13, 3) := by decide +kernel
theorem dX10_partOf_16 : decode cX10_partOf 16 = .ok (.iload_n 0, 1) := by decide +kernel
theorem dX10_partOf_17 : decode cX10_partOf 17 = .ok (.bipush 10, 2) := by decide +kernel
theorem dX10_partOf_19 : decode cX10_partOf 19 = .ok (.idiv, 1) := by decide +kernel
theorem dX10_partOf_20 : decode cX10_partOf 20 = .ok (.bipush 10, 2) := by decide +kernel
theorem dX10_partOf_22 : decode cX10_partOf 22 = .ok (.irem, 1) := by decide +kernel
theorem dX10_partOf_23 : decode cX10_partOf 23 = .ok (.goto 7, 3) := by decide +kernel
theorem dX10_partOf_26 : decode cX10_partOf 26 = .ok (.iload_n 0, 1) := by decide +kernel
theorem dX10_partOf_27 : decode cX10_partOf 27 = .ok (.bipush 10, 2) := by decide +kernel
theorem dX10_partOf_29 : decode cX10_partOf 29 = .ok (.irem, 1) := by decide +kernel
theorem dX10_partOf_30 : decode cX10_partOf 30 = .ok (.ireturn, 1) := by decide +kernel
theorem dX10_areParts_0 : decode cX10_areParts 0 = .ok (.iload_n 0, 1) := by decide +kernel
theorem dX10_areParts_1 : decode cX10_areParts 1 = .ok (.i2l, 1) := by decide +kernel
theorem dX10_areParts_2 : decode cX10_areParts 2 = .ok (.lconst 0, 1) := by decide +kernel
theorem dX10_areParts_3 : decode cX10_areParts 3 = .ok (.ldc2_w 153, 3) := by decide +kernel
theorem dX10_areParts_6 : decode cX10_areParts 6 = .ok (.invokestatic 149, 3) := by decide +kernel
theorem dX10_areParts_9 : decode cX10_areParts 9 = .ok (.ifCond .eq 26, 3) := by decide +kernel
theorem dX10_areParts_12 : decode cX10_areParts 12 = .ok (.iload_n 0, 1) := by decide +kernel
theorem dX10_areParts_13 : decode cX10_areParts 13 = .ok (.bipush 10, 2) := by decide +kernel
theorem dX10_areParts_15 : decode cX10_areParts 15 = .ok (.idiv, 1) := by decide +kernel
theorem dX10_areParts_16 : decode cX10_areParts 16 = .ok (.bipush 10, 2) := by decide +kernel
theorem dX10_areParts_18 : decode cX10_areParts 18 = .ok (.irem, 1) := by decide +kernel
theorem dX10_areParts_19 : decode cX10_areParts 19 = .ok (.iconst 4, 1) := by decide +kernel
theorem dX10_areParts_20 : decode cX10_areParts 20 = .ok (.if_icmp .ge 15, 3) := by decide +kernel
theorem dX10_areParts_23 : decode cX10_areParts 23 = .ok (.iload_n 0, 1) := by decide +kernel
theorem dX10_areParts_24 : decode cX10_areParts 24 = .ok (.bipush 10, 2) := by decide +kernel
theorem dX10_areParts_26 : decode cX10_areParts 26 = .ok (.irem, 1) := by decide +kernel
theorem dX10_areParts_27 : decode cX10_areParts 27 = .ok (.iconst 4, 1) := by decide +kernel
theorem dX10_areParts_28 : decode cX10_areParts 28 = .ok (.if_icmp .ge 7, 3) := by decide +kernel
theorem dX10_areParts_31 : decode cX10_areParts 31 = .ok (.iconst 1, 1) := by decide +kernel
theorem dX10_areParts_32 : decode cX10_areParts 32 = .ok (.goto 4, 3) := by decide +kernel
theorem dX10_areParts_35 : decode cX10_areParts 35 = .ok (.iconst 0, 1) := by decide +kernel
theorem dX10_areParts_36 : decode cX10_areParts 36 = .ok (.ireturn, 1) := by decide +kernel
theorem dX10_wine_0 : decode cX10_wine 0 = .ok (.iload_n 1, 1) := by decide +kernel
theorem dX10_wine_1 : decode cX10_wine 1 = .ok (.i2l, 1) := by decide +kernel
theorem dX10_wine_2 : decode cX10_wine 2 = .ok (.lconst 0, 1) := by decide +kernel
theorem dX10_wine_3 : decode cX10_wine 3 = .ok (.ldc2_w 155, 3) := by decide +kernel
theorem dX10_wine_6 : decode cX10_wine 6 = .ok (.invokestatic 149, 3) := by decide +kernel
theorem dX10_wine_9 : decode cX10_wine 9 = .ok (.ifCond .eq 35, 3) := by decide +kernel
theorem dX10_wine_12 : decode cX10_wine 12 = .ok (.iload_n 2, 1) := by decide +kernel
theorem dX10_wine_13 : decode cX10_wine 13 = .ok (.i2l, 1) := by decide +kernel
theorem dX10_wine_14 : decode cX10_wine 14 = .ok (.lconst 0, 1) := by decide +kernel
theorem dX10_wine_15 : decode cX10_wine 15 = .ok (.ldc2_w 157, 3) := by decide +kernel
theorem dX10_wine_18 : decode cX10_wine 18 = .ok (.invokestatic 149, 3) := by decide +kernel
theorem dX10_wine_21 : decode cX10_wine 21 = .ok (.ifCond .eq 23, 3) := by decide +kernel
theorem dX10_wine_24 : decode cX10_wine 24 = .ok (.iload_n 3, 1) := by decide +kernel
theorem dX10_wine_25 : decode cX10_wine 25 = .ok (.invokestatic 159, 3) := by decide +kernel
theorem dX10_wine_28 : decode cX10_wine 28 = .ok (.ifCond .eq 16, 3) := by decide +kernel
theorem dX10_wine_31 : decode cX10_wine 31 = .ok (.iload 4, 2) := by decide +kernel
theorem dX10_wine_33 : decode cX10_wine 33 = .ok (.i2l, 1) := by decide +kernel
theorem dX10_wine_34 : decode cX10_wine 34 = .ok (.lconst 0, 1) := by decide +kernel
theorem dX10_wine_35 : decode cX10_wine 35 = .ok (.ldc2_w 163, 3) := by decide +kernel
theorem dX10_wine_38 : decode cX10_wine 38 = .ok (.invokestatic 149, 3) := by decide +kernel
theorem dX10_wine_41 : decode cX10_wine 41 = .ok (.ifCond .ne 6, 3) := by decide +kernel
theorem dX10_wine_44 : decode cX10_wine 44 = .ok (.bipush (-2), 2) := by decide +kernel
theorem dX10_wine_46 : decode cX10_wine 46 = .ok (.ireturn, 1) := by decide +kernel
theorem dX10_wine_47 : decode cX10_wine 47 = .ok (.aload_n 0, 1) := by decide +kernel
theorem dX10_wine_48 : decode cX10_wine 48 = .ok (.getfield 146, 3) := by decide +kernel
theorem dX10_wine_51 : decode cX10_wine 51 = .ok (.bipush 8, 2) := by decide +kernel
theorem dX10_wine_53 : decode cX10_wine 53 = .ok (.if_icmp .ne 6, 3) := by decide +kernel
theorem dX10_wine_56 : decode cX10_wine 56 = .ok (.bipush (-4), 2) := by decide +kernel
theorem dX10_wine_58 : decode cX10_wine 58 = .ok (.ireturn, 1) := by decide +kernel
theorem dX10_wine_59 : decode cX10_wine 59 = .ok (.aload_n 0, 1) := by decide +kernel
theorem dX10_wine_60 : decode cX10_wine 60 = .ok (.getfield 23, 3) := by decide +kernel
theorem dX10_wine_63 : decode cX10_wine 63 = .ok (.aload_n 0, 1) := by decide +kernel
theorem dX10_wine_64 : decode cX10_wine 64 = .ok (.getfield 146, 3) := by decide +kernel
theorem dX10_wine_67 : decode cX10_wine 67 = .ok (.iload_n 1, 1) := by decide +kernel
theorem dX10_wine_68 : decode cX10_wine 68 = .ok (.iastore, 1) := by decide +kernel
theorem dX10_wine_69 : decode cX10_wine 69 = .ok (.aload_n 0, 1) := by decide +kernel
theorem dX10_wine_70 : decode cX10_wine 70 = .ok (.getfield 26, 3) := by decide +kernel
theorem dX10_wine_73 : decode cX10_wine 73 = .ok (.aload_n 0, 1) := by decide +kernel
theorem dX10_wine_74 : decode cX10_wine 74 = .ok (.getfield 146, 3) := by decide +kernel
theorem dX10_wine_77 : decode cX10_wine 77 = .ok (.iload_n 2, 1) := by decide +kernel
theorem dX10_wine_78 : decode cX10_wine 78 = .ok (.iastore, 1) := by decide +kernel
theorem dX10_wine_79 : decode cX10_wine 79 = .ok (.aload_n 0, 1) := by decide +kernel
theorem dX10_wine_80 : decode cX10_wine 80 = .ok (.getfield 29, 3) := by decide +kernel
theorem dX10_wine_83 : decode cX10_wine 83 = .ok (.aload_n 0, 1) := by decide +kernel
theorem dX10_wine_84 : decode cX10_wine 84 = .ok (.getfield 146, 3) := by decide +kernel
theorem dX10_wine_87 : decode cX10_wine 87 = .ok (.iconst 0, 1) := by decide +kernel
theorem dX10_wine_88 : decode cX10_wine 88 = .ok (.iastore, 1) := by decide +kernel
theorem dX10_wine_89 : decode cX10_wine 89 = .ok (.aload_n 0, 1) := by decide +kernel
theorem dX10_wine_90 : decode cX10_wine 90 = .ok (.getfield 32, 3) := by decide +kernel
theorem dX10_wine_93 : decode cX10_wine 93 = .ok (.aload_n 0, 1) := by decide +kernel
theorem dX10_wine_94 : decode cX10_wine 94 = .ok (.getfield 146, 3) := by decide +kernel
theorem dX10_wine_97 : decode cX10_wine 97 = .ok (.iload_n 3, 1) := by decide +kernel
theorem dX10_wine_98 : decode cX10_wine 98 = .ok (.iastore, 1) := by decide +kernel
theorem dX10_wine_99 : decode cX10_wine 99 = .ok (.aload_n 0, 1) := by decide +kernel
theorem dX10_wine_100 : decode cX10_wine 100 = .ok (.getfield 35, 3) := by decide +kernel
theorem dX10_wine_103 : decode cX10_wine 103 = .ok (.aload_n 0, 1) := by decide +kernel
theorem dX10_wine_104 : decode cX10_wine 104 = .ok (.getfield 146, 3) := by decide +kernel
theorem dX10_wine_107 : decode cX10_wine 107 = .ok (.iload 4, 2) := by decide +kernel
theorem dX10_wine_109 : decode cX10_wine 109 = .ok (.iastore, 1) := by decide +kernel
theorem dX10_wine_110 : decode cX10_wine 110 = .ok (.aload_n 0, 1) := by decide +kernel
theorem dX10_wine_111 : decode cX10_wine 111 = .ok (.dup, 1) := by decide +kernel
theorem dX10_wine_112 : decode cX10_wine 112 = .ok (.getfield 146, 3) := by decide +kernel
theorem dX10_wine_115 : decode cX10_wine 115 = .ok (.iconst 1, 1) := by decide +kernel
theorem dX10_wine_116 : decode cX10_wine 116 = .ok (.iadd, 1) := by decide +kernel
theorem dX10_wine_117 : decode cX10_wine 117 = .ok (.putfield 146, 3) := by decide +kernel
theorem dX10_wine_120 : decode cX10_wine 120 = .ok (.aload_n 0, 1) := by decide +kernel
theorem dX10_wine_121 : decode cX10_wine 121 = .ok (.getfield 146, 3) := by decide +kernel
theorem dX10_wine_124 : decode cX10_wine 124 = .ok (.iconst 1, 1) := by decide +kernel
theorem dX10_wine_125 : decode cX10_wine 125 = .ok (.isub, 1) := by decide +kernel
theorem dX10_wine_126 : decode cX10_wine 126 = .ok (.ireturn, 1) := by decide +kernel
theorem dX10_tasteOf_0 : decode cX10_tasteOf 0 = .ok (.iload_n 2, 1) := by decide +kernel
theorem dX10_tasteOf_1 : decode cX10_tasteOf 1 = .ok (.ifCond .ne 16, 3) := by decide +kernel
theorem dX10_tasteOf_4 : decode cX10_tasteOf 4 = .ok (.aload_n 0, 1) := by decide +kernel
theorem dX10_tasteOf_5 : decode cX10_tasteOf 5 = .ok (.getfield 35, 3) := by decide +kernel
theorem dX10_tasteOf_8 : decode cX10_tasteOf 8 = .ok (.iload_n 1, 1) := by decide +kernel
theorem dX10_tasteOf_9 : decode cX10_tasteOf 9 = .ok (.iaload, 1) := by decide +kernel
theorem dX10_tasteOf_10 : decode cX10_tasteOf 10 = .ok (.sipush 10000, 3) := by decide +kernel
theorem dX10_tasteOf_13 : decode cX10_tasteOf 13 = .ok (.idiv, 1) := by decide +kernel
theorem dX10_tasteOf_14 : decode cX10_tasteOf 14 = .ok (.goto 32, 3) := by decide +kernel
theorem dX10_tasteOf_17 : decode cX10_tasteOf 17 = .ok (.iload_n 2, 1) := by decide +kernel
theorem dX10_tasteOf_18 : decode cX10_tasteOf 18 = .ok (.iconst 1, 1) := by decide +kernel
theorem dX10_tasteOf_19 : decode cX10_tasteOf 19 = .ok (.if_icmp .ne 18, 3) := by decide +kernel
theorem dX10_tasteOf_22 : decode cX10_tasteOf 22 = .ok (.aload_n 0, 1) := by decide +kernel
theorem dX10_tasteOf_23 : decode cX10_tasteOf 23 = .ok (.getfield 35, 3) := by decide +kernel
theorem dX10_tasteOf_26 : decode cX10_tasteOf 26 = .ok (.iload_n 1, 1) := by decide +kernel
theorem dX10_tasteOf_27 : decode cX10_tasteOf 27 = .ok (.iaload, 1) := by decide +kernel
theorem dX10_tasteOf_28 : decode cX10_tasteOf 28 = .ok (.bipush 100, 2) := by decide +kernel
theorem dX10_tasteOf_30 : decode cX10_tasteOf 30 = .ok (.idiv, 1) := by decide +kernel
theorem dX10_tasteOf_31 : decode cX10_tasteOf 31 = .ok (.bipush 100, 2) := by decide +kernel
theorem dX10_tasteOf_33 : decode cX10_tasteOf 33 = .ok (.irem, 1) := by decide +kernel
theorem dX10_tasteOf_34 : decode cX10_tasteOf 34 = .ok (.goto 12, 3) := by decide +kernel
theorem dX10_tasteOf_37 : decode cX10_tasteOf 37 = .ok (.aload_n 0, 1) := by decide +kernel
theorem dX10_tasteOf_38 : decode cX10_tasteOf 38 = .ok (.getfield 35, 3) := by decide +kernel
theorem dX10_tasteOf_41 : decode cX10_tasteOf 41 = .ok (.iload_n 1, 1) := by decide +kernel
theorem dX10_tasteOf_42 : decode cX10_tasteOf 42 = .ok (.iaload, 1) := by decide +kernel
theorem dX10_tasteOf_43 : decode cX10_tasteOf 43 = .ok (.bipush 100, 2) := by decide +kernel
theorem dX10_tasteOf_45 : decode cX10_tasteOf 45 = .ok (.irem, 1) := by decide +kernel
theorem dX10_tasteOf_46 : decode cX10_tasteOf 46 = .ok (.ireturn, 1) := by decide +kernel
theorem dX10_drunk_0 : decode cX10_drunk 0 = .ok (.aload_n 0, 1) := by decide +kernel
theorem dX10_drunk_1 : decode cX10_drunk 1 = .ok (.iload_n 1, 1) := by decide +kernel
theorem dX10_drunk_2 : decode cX10_drunk 2 = .ok (.invokevirtual 165, 3) := by decide +kernel
theorem dX10_drunk_5 : decode cX10_drunk 5 = .ok (.ifCond .eq 15, 3) := by decide +kernel
theorem dX10_drunk_8 : decode cX10_drunk 8 = .ok (.iload_n 2, 1) := by decide +kernel
theorem dX10_drunk_9 : decode cX10_drunk 9 = .ok (.i2l, 1) := by decide +kernel
theorem dX10_drunk_10 : decode cX10_drunk 10 = .ok (.lconst 0, 1) := by decide +kernel
theorem dX10_drunk_11 : decode cX10_drunk 11 = .ok (.ldc2_w 157, 3) := by decide +kernel
theorem dX10_drunk_14 : decode cX10_drunk 14 = .ok (.invokestatic 149, 3) := by decide +kernel
theorem dX10_drunk_17 : decode cX10_drunk 17 = .ok (.ifCond .ne 6, 3) := by decide +kernel
theorem dX10_drunk_20 : decode cX10_drunk 20 = .ok (.bipush (-2), 2) := by decide +kernel
theorem dX10_drunk_22 : decode cX10_drunk 22 = .ok (.ireturn, 1) := by decide +kernel
theorem dX10_drunk_23 : decode cX10_drunk 23 = .ok (.aload_n 0, 1) := by decide +kernel
theorem dX10_drunk_24 : decode cX10_drunk 24 = .ok (.getfield 29, 3) := by decide +kernel
theorem dX10_drunk_27 : decode cX10_drunk 27 = .ok (.iload_n 1, 1) := by decide +kernel
theorem dX10_drunk_28 : decode cX10_drunk 28 = .ok (.iaload, 1) := by decide +kernel
theorem dX10_drunk_29 : decode cX10_drunk 29 = .ok (.istore_n 3, 1) := by decide +kernel
theorem dX10_drunk_30 : decode cX10_drunk 30 = .ok (.aload_n 0, 1) := by decide +kernel
theorem dX10_drunk_31 : decode cX10_drunk 31 = .ok (.getfield 29, 3) := by decide +kernel
theorem dX10_drunk_34 : decode cX10_drunk 34 = .ok (.iload_n 1, 1) := by decide +kernel
theorem dX10_drunk_35 : decode cX10_drunk 35 = .ok (.iload_n 2, 1) := by decide +kernel
theorem dX10_drunk_36 : decode cX10_drunk 36 = .ok (.iastore, 1) := by decide +kernel
theorem dX10_drunk_37 : decode cX10_drunk 37 = .ok (.iload_n 3, 1) := by decide +kernel
theorem dX10_drunk_38 : decode cX10_drunk 38 = .ok (.ireturn, 1) := by decide +kernel
theorem dX10_book_0 : decode cX10_book 0 = .ok (.iload_n 1, 1) := by decide +kernel
theorem dX10_book_1 : decode cX10_book 1 = .ok (.i2l, 1) := by decide +kernel
theorem dX10_book_2 : decode cX10_book 2 = .ok (.lconst 0, 1) := by decide +kernel
theorem dX10_book_3 : decode cX10_book 3 = .ok (.ldc2_w 168, 3) := by decide +kernel
theorem dX10_book_6 : decode cX10_book 6 = .ok (.invokestatic 149, 3) := by decide +kernel
theorem dX10_book_9 : decode cX10_book 9 = .ok (.ifCond .eq 41, 3) := by decide +kernel
theorem dX10_book_12 : decode cX10_book 12 = .ok (.iload_n 2, 1) := by decide +kernel
theorem dX10_book_13 : decode cX10_book 13 = .ok (.i2l, 1) := by decide +kernel
theorem dX10_book_14 : decode cX10_book 14 = .ok (.lconst 0, 1) := by decide +kernel
theorem dX10_book_15 : decode cX10_book 15 = .ok (.ldc2_w 170, 3) := by decide +kernel
theorem dX10_book_18 : decode cX10_book 18 = .ok (.invokestatic 149, 3) := by decide +kernel
theorem dX10_book_21 : decode cX10_book 21 = .ok (.ifCond .eq 29, 3) := by decide +kernel
theorem dX10_book_24 : decode cX10_book 24 = .ok (.iload_n 3, 1) := by decide +kernel
theorem dX10_book_25 : decode cX10_book 25 = .ok (.i2l, 1) := by decide +kernel
theorem dX10_book_26 : decode cX10_book 26 = .ok (.lconst 0, 1) := by decide +kernel
theorem dX10_book_27 : decode cX10_book 27 = .ok (.ldc2_w 155, 3) := by decide +kernel
theorem dX10_book_30 : decode cX10_book 30 = .ok (.invokestatic 149, 3) := by decide +kernel
theorem dX10_book_33 : decode cX10_book 33 = .ok (.ifCond .eq 17, 3) := by decide +kernel
theorem dX10_book_36 : decode cX10_book 36 = .ok (.iload 4, 2) := by decide +kernel
theorem dX10_book_38 : decode cX10_book 38 = .ok (.i2l, 1) := by decide +kernel
theorem dX10_book_39 : decode cX10_book 39 = .ok (.iload_n 3, 1) := by decide +kernel
theorem dX10_book_40 : decode cX10_book 40 = .ok (.i2l, 1) := by decide +kernel
theorem dX10_book_41 : decode cX10_book 41 = .ok (.ldc2_w 155, 3) := by decide +kernel
theorem dX10_book_44 : decode cX10_book 44 = .ok (.invokestatic 149, 3) := by decide +kernel
theorem dX10_book_47 : decode cX10_book 47 = .ok (.ifCond .ne 6, 3) := by decide +kernel
theorem dX10_book_50 : decode cX10_book 50 = .ok (.bipush (-2), 2) := by decide +kernel
theorem dX10_book_52 : decode cX10_book 52 = .ok (.ireturn, 1) := by decide +kernel
theorem dX10_book_53 : decode cX10_book 53 = .ok (.aload_n 0, 1) := by decide +kernel
theorem dX10_book_54 : decode cX10_book 54 = .ok (.getfield 38, 3) := by decide +kernel
theorem dX10_book_57 : decode cX10_book 57 = .ok (.iconst 4, 1) := by decide +kernel
theorem dX10_book_58 : decode cX10_book 58 = .ok (.iload_n 1, 1) := by decide +kernel
theorem dX10_book_59 : decode cX10_book 59 = .ok (.imul, 1) := by decide +kernel
theorem dX10_book_60 : decode cX10_book 60 = .ok (.iload_n 2, 1) := by decide +kernel
theorem dX10_book_61 : decode cX10_book 61 = .ok (.iadd, 1) := by decide +kernel
theorem dX10_book_62 : decode cX10_book 62 = .ok (.iload_n 3, 1) := by decide +kernel
theorem dX10_book_63 : decode cX10_book 63 = .ok (.iastore, 1) := by decide +kernel
theorem dX10_book_64 : decode cX10_book 64 = .ok (.aload_n 0, 1) := by decide +kernel
theorem dX10_book_65 : decode cX10_book 65 = .ok (.getfield 41, 3) := by decide +kernel
theorem dX10_book_68 : decode cX10_book 68 = .ok (.iconst 4, 1) := by decide +kernel
theorem dX10_book_69 : decode cX10_book 69 = .ok (.iload_n 1, 1) := by decide +kernel
theorem dX10_book_70 : decode cX10_book 70 = .ok (.imul, 1) := by decide +kernel
theorem dX10_book_71 : decode cX10_book 71 = .ok (.iload_n 2, 1) := by decide +kernel
theorem dX10_book_72 : decode cX10_book 72 = .ok (.iadd, 1) := by decide +kernel
theorem dX10_book_73 : decode cX10_book 73 = .ok (.iload 4, 2) := by decide +kernel
theorem dX10_book_75 : decode cX10_book 75 = .ok (.iastore, 1) := by decide +kernel
theorem dX10_book_76 : decode cX10_book 76 = .ok (.iconst 1, 1) := by decide +kernel
theorem dX10_book_77 : decode cX10_book 77 = .ok (.ireturn, 1) := by decide +kernel
theorem dX10_test_0 : decode cX10_test 0 = .ok (.iload_n 1, 1) := by decide +kernel
theorem dX10_test_1 : decode cX10_test 1 = .ok (.i2l, 1) := by decide +kernel
theorem dX10_test_2 : decode cX10_test 2 = .ok (.lconst 0, 1) := by decide +kernel
theorem dX10_test_3 : decode cX10_test 3 = .ok (.ldc2_w 168, 3) := by decide +kernel
theorem dX10_test_6 : decode cX10_test 6 = .ok (.invokestatic 149, 3) := by decide +kernel
theorem dX10_test_9 : decode cX10_test 9 = .ok (.ifCond .eq 15, 3) := by decide +kernel
theorem dX10_test_12 : decode cX10_test 12 = .ok (.iload_n 2, 1) := by decide +kernel
theorem dX10_test_13 : decode cX10_test 13 = .ok (.i2l, 1) := by decide +kernel
theorem dX10_test_14 : decode cX10_test 14 = .ok (.lconst 0, 1) := by decide +kernel
theorem dX10_test_15 : decode cX10_test 15 = .ok (.ldc2_w 172, 3) := by decide +kernel
theorem dX10_test_18 : decode cX10_test 18 = .ok (.invokestatic 149, 3) := by decide +kernel
theorem dX10_test_21 : decode cX10_test 21 = .ok (.ifCond .ne 6, 3) := by decide +kernel
theorem dX10_test_24 : decode cX10_test 24 = .ok (.bipush (-2), 2) := by decide +kernel
theorem dX10_test_26 : decode cX10_test 26 = .ok (.ireturn, 1) := by decide +kernel
theorem dX10_test_27 : decode cX10_test 27 = .ok (.aload_n 0, 1) := by decide +kernel
theorem dX10_test_28 : decode cX10_test 28 = .ok (.getfield 44, 3) := by decide +kernel
theorem dX10_test_31 : decode cX10_test 31 = .ok (.iload_n 1, 1) := by decide +kernel
theorem dX10_test_32 : decode cX10_test 32 = .ok (.iaload, 1) := by decide +kernel
theorem dX10_test_33 : decode cX10_test 33 = .ok (.istore_n 3, 1) := by decide +kernel
theorem dX10_test_34 : decode cX10_test 34 = .ok (.aload_n 0, 1) := by decide +kernel
theorem dX10_test_35 : decode cX10_test 35 = .ok (.getfield 44, 3) := by decide +kernel
theorem dX10_test_38 : decode cX10_test 38 = .ok (.iload_n 1, 1) := by decide +kernel
theorem dX10_test_39 : decode cX10_test 39 = .ok (.iload_n 2, 1) := by decide +kernel
theorem dX10_test_40 : decode cX10_test 40 = .ok (.iastore, 1) := by decide +kernel
theorem dX10_test_41 : decode cX10_test 41 = .ok (.iload_n 3, 1) := by decide +kernel
theorem dX10_test_42 : decode cX10_test 42 = .ok (.ireturn, 1) := by decide +kernel
theorem dX10_isBottle_0 : decode cX10_isBottle 0 = .ok (.iload_n 1, 1) := by decide +kernel
theorem dX10_isBottle_1 : decode cX10_isBottle 1 = .ok (.i2l, 1) := by decide +kernel
theorem dX10_isBottle_2 : decode cX10_isBottle 2 = .ok (.lconst 0, 1) := by decide +kernel
theorem dX10_isBottle_3 : decode cX10_isBottle 3 = .ok (.aload_n 0, 1) := by decide +kernel
theorem dX10_isBottle_4 : decode cX10_isBottle 4 = .ok (.getfield 174, 3) := by decide +kernel
theorem dX10_isBottle_7 : decode cX10_isBottle 7 = .ok (.iconst 1, 1) := by decide +kernel
theorem dX10_isBottle_8 : decode cX10_isBottle 8 = .ok (.isub, 1) := by decide +kernel
theorem dX10_isBottle_9 : decode cX10_isBottle 9 = .ok (.i2l, 1) := by decide +kernel
theorem dX10_isBottle_10 : decode cX10_isBottle 10 = .ok (.invokestatic 149, 3) := by decide +kernel
theorem dX10_isBottle_13 : decode cX10_isBottle 13 = .ok (.ireturn, 1) := by decide +kernel
theorem dX10_bottle_0 : decode cX10_bottle 0 = .ok (.iload_n 1, 1) := by decide +kernel
theorem dX10_bottle_1 : decode cX10_bottle 1 = .ok (.i2l, 1) := by decide +kernel
theorem dX10_bottle_2 : decode cX10_bottle 2 = .ok (.lconst 0, 1) := by decide +kernel
theorem dX10_bottle_3 : decode cX10_bottle 3 = .ok (.ldc2_w 177, 3) := by decide +kernel
theorem dX10_bottle_6 : decode cX10_bottle 6 = .ok (.invokestatic 149, 3) := by decide +kernel
theorem dX10_bottle_9 : decode cX10_bottle 9 = .ok (.ifCond .eq 36, 3) := by decide +kernel
theorem dX10_bottle_12 : decode cX10_bottle 12 = .ok (.iload_n 2, 1) := by decide +kernel
theorem dX10_bottle_13 : decode cX10_bottle 13 = .ok (.ifCond .lt 32, 3) := by decide +kernel
theorem dX10_bottle_16 : decode cX10_bottle 16 = .ok (.aload_n 0, 1) := by decide +kernel
theorem dX10_bottle_17 : decode cX10_bottle 17 = .ok (.iload_n 2, 1) := by decide +kernel
theorem dX10_bottle_18 : decode cX10_bottle 18 = .ok (.bipush 10, 2) := by decide +kernel
theorem dX10_bottle_20 : decode cX10_bottle 20 = .ok (.idiv, 1) := by decide +kernel
theorem dX10_bottle_21 : decode cX10_bottle 21 = .ok (.invokevirtual 165, 3) := by decide +kernel
theorem dX10_bottle_24 : decode cX10_bottle 24 = .ok (.ifCond .eq 21, 3) := by decide +kernel
theorem dX10_bottle_27 : decode cX10_bottle 27 = .ok (.aload_n 0, 1) := by decide +kernel
theorem dX10_bottle_28 : decode cX10_bottle 28 = .ok (.iload_n 2, 1) := by decide +kernel
theorem dX10_bottle_29 : decode cX10_bottle 29 = .ok (.bipush 10, 2) := by decide +kernel
theorem dX10_bottle_31 : decode cX10_bottle 31 = .ok (.irem, 1) := by decide +kernel
theorem dX10_bottle_32 : decode cX10_bottle 32 = .ok (.invokevirtual 165, 3) := by decide +kernel
theorem dX10_bottle_35 : decode cX10_bottle 35 = .ok (.ifCond .eq 10, 3) := by decide +kernel
theorem dX10_bottle_38 : decode cX10_bottle 38 = .ok (.iload_n 3, 1) := by decide +kernel
theorem dX10_bottle_39 : decode cX10_bottle 39 = .ok (.invokestatic 159, 3) := by decide +kernel
theorem dX10_bottle_42 : decode cX10_bottle 42 = .ok (.ifCond .ne 6, 3) := by decide +kernel
theorem dX10_bottle_45 : decode cX10_bottle 45 = .ok (.bipush (-2), 2) := by decide +kernel
theorem dX10_bottle_47 : decode cX10_bottle 47 = .ok (.ireturn, 1) := by decide +kernel
theorem dX10_bottle_48 : decode cX10_bottle 48 = .ok (.aload_n 0, 1) := by decide +kernel
theorem dX10_bottle_49 : decode cX10_bottle 49 = .ok (.getfield 174, 3) := by decide +kernel
theorem dX10_bottle_52 : decode cX10_bottle 52 = .ok (.bipush 24, 2) := by decide +kernel
theorem dX10_bottle_54 : decode cX10_bottle 54 = .ok (.if_icmp .ne 6, 3) := by decide +kernel
theorem dX10_bottle_57 : decode cX10_bottle 57 = .ok (.bipush (-4), 2) := by decide +kernel
theorem dX10_bottle_59 : decode cX10_bottle 59 = .ok (.ireturn, 1) := by decide +kernel
theorem dX10_bottle_60 : decode cX10_bottle 60 = .ok (.aload_n 0, 1) := by decide +kernel
theorem dX10_bottle_61 : decode cX10_bottle 61 = .ok (.getfield 47, 3) := by decide +kernel
theorem dX10_bottle_64 : decode cX10_bottle 64 = .ok (.aload_n 0, 1) := by decide +kernel
theorem dX10_bottle_65 : decode cX10_bottle 65 = .ok (.getfield 174, 3) := by decide +kernel
theorem dX10_bottle_68 : decode cX10_bottle 68 = .ok (.iload_n 1, 1) := by decide +kernel
theorem dX10_bottle_69 : decode cX10_bottle 69 = .ok (.iastore, 1) := by decide +kernel
theorem dX10_bottle_70 : decode cX10_bottle 70 = .ok (.aload_n 0, 1) := by decide +kernel
theorem dX10_bottle_71 : decode cX10_bottle 71 = .ok (.getfield 50, 3) := by decide +kernel
theorem dX10_bottle_74 : decode cX10_bottle 74 = .ok (.aload_n 0, 1) := by decide +kernel
theorem dX10_bottle_75 : decode cX10_bottle 75 = .ok (.getfield 174, 3) := by decide +kernel
theorem dX10_bottle_78 : decode cX10_bottle 78 = .ok (.iload_n 2, 1) := by decide +kernel
theorem dX10_bottle_79 : decode cX10_bottle 79 = .ok (.bipush 10, 2) := by decide +kernel
theorem dX10_bottle_81 : decode cX10_bottle 81 = .ok (.idiv, 1) := by decide +kernel
theorem dX10_bottle_82 : decode cX10_bottle 82 = .ok (.iastore, 1) := by decide +kernel
theorem dX10_bottle_83 : decode cX10_bottle 83 = .ok (.aload_n 0, 1) := by decide +kernel
theorem dX10_bottle_84 : decode cX10_bottle 84 = .ok (.getfield 53, 3) := by decide +kernel
theorem dX10_bottle_87 : decode cX10_bottle 87 = .ok (.aload_n 0, 1) := by decide +kernel
theorem dX10_bottle_88 : decode cX10_bottle 88 = .ok (.getfield 174, 3) := by decide +kernel
theorem dX10_bottle_91 : decode cX10_bottle 91 = .ok (.iload_n 2, 1) := by decide +kernel
theorem dX10_bottle_92 : decode cX10_bottle 92 = .ok (.bipush 10, 2) := by decide +kernel
theorem dX10_bottle_94 : decode cX10_bottle 94 = .ok (.irem, 1) := by decide +kernel
theorem dX10_bottle_95 : decode cX10_bottle 95 = .ok (.iastore, 1) := by decide +kernel
theorem dX10_bottle_96 : decode cX10_bottle 96 = .ok (.aload_n 0, 1) := by decide +kernel
theorem dX10_bottle_97 : decode cX10_bottle 97 = .ok (.getfield 56, 3) := by decide +kernel
theorem dX10_bottle_100 : decode cX10_bottle 100 = .ok (.aload_n 0, 1) := by decide +kernel
theorem dX10_bottle_101 : decode cX10_bottle 101 = .ok (.getfield 174, 3) := by decide +kernel
theorem dX10_bottle_104 : decode cX10_bottle 104 = .ok (.iload_n 3, 1) := by decide +kernel
theorem dX10_bottle_105 : decode cX10_bottle 105 = .ok (.iastore, 1) := by decide +kernel
theorem dX10_bottle_106 : decode cX10_bottle 106 = .ok (.aload_n 0, 1) := by decide +kernel
theorem dX10_bottle_107 : decode cX10_bottle 107 = .ok (.dup, 1) := by decide +kernel
theorem dX10_bottle_108 : decode cX10_bottle 108 = .ok (.getfield 174, 3) := by decide +kernel
theorem dX10_bottle_111 : decode cX10_bottle 111 = .ok (.iconst 1, 1) := by decide +kernel
theorem dX10_bottle_112 : decode cX10_bottle 112 = .ok (.iadd, 1) := by decide +kernel
theorem dX10_bottle_113 : decode cX10_bottle 113 = .ok (.putfield 174, 3) := by decide +kernel
theorem dX10_bottle_116 : decode cX10_bottle 116 = .ok (.aload_n 0, 1) := by decide +kernel
theorem dX10_bottle_117 : decode cX10_bottle 117 = .ok (.getfield 174, 3) := by decide +kernel
theorem dX10_bottle_120 : decode cX10_bottle 120 = .ok (.iconst 1, 1) := by decide +kernel
theorem dX10_bottle_121 : decode cX10_bottle 121 = .ok (.isub, 1) := by decide +kernel
theorem dX10_bottle_122 : decode cX10_bottle 122 = .ok (.ireturn, 1) := by decide +kernel
theorem dX10_showsOf_0 : decode cX10_showsOf 0 = .ok (.aload_n 0, 1) := by decide +kernel
theorem dX10_showsOf_1 : decode cX10_showsOf 1 = .ok (.getfield 56, 3) := by decide +kernel
theorem dX10_showsOf_4 : decode cX10_showsOf 4 = .ok (.iload_n 1, 1) := by decide +kernel
theorem dX10_showsOf_5 : decode cX10_showsOf 5 = .ok (.iaload, 1) := by decide +kernel
theorem dX10_showsOf_6 : decode cX10_showsOf 6 = .ok (.iload_n 2, 1) := by decide +kernel
theorem dX10_showsOf_7 : decode cX10_showsOf 7 = .ok (.invokestatic 179, 3) := by decide +kernel
theorem dX10_showsOf_10 : decode cX10_showsOf 10 = .ok (.istore_n 3, 1) := by decide +kernel
theorem dX10_showsOf_11 : decode cX10_showsOf 11 = .ok (.aload_n 0, 1) := by decide +kernel
theorem dX10_showsOf_12 : decode cX10_showsOf 12 = .ok (.getfield 32, 3) := by decide +kernel
theorem dX10_showsOf_15 : decode cX10_showsOf 15 = .ok (.aload_n 0, 1) := by decide +kernel
theorem dX10_showsOf_16 : decode cX10_showsOf 16 = .ok (.getfield 50, 3) := by decide +kernel
theorem dX10_showsOf_19 : decode cX10_showsOf 19 = .ok (.iload_n 1, 1) := by decide +kernel
theorem dX10_showsOf_20 : decode cX10_showsOf 20 = .ok (.iaload, 1) := by decide +kernel
theorem dX10_showsOf_21 : decode cX10_showsOf 21 = .ok (.iaload, 1) := by decide +kernel
theorem dX10_showsOf_22 : decode cX10_showsOf 22 = .ok (.iload_n 2, 1) := by decide +kernel
theorem dX10_showsOf_23 : decode cX10_showsOf 23 = .ok (.invokestatic 179, 3) := by decide +kernel
theorem dX10_showsOf_26 : decode cX10_showsOf 26 = .ok (.istore 4, 2) := by decide +kernel
theorem dX10_showsOf_28 : decode cX10_showsOf 28 = .ok (.aload_n 0, 1) := by decide +kernel
theorem dX10_showsOf_29 : decode cX10_showsOf 29 = .ok (.getfield 47, 3) := by decide +kernel
theorem dX10_showsOf_32 : decode cX10_showsOf 32 = .ok (.iload_n 1, 1) := by decide +kernel
theorem dX10_showsOf_33 : decode cX10_showsOf 33 = .ok (.iaload, 1) := by decide +kernel
theorem dX10_showsOf_34 : decode cX10_showsOf 34 = .ok (.tableswitch 68 1 4 #[30, 45, 33, 56], 30) := by decide +kernel
theorem dX10_showsOf_64 : decode cX10_showsOf 64 = .ok (.iload 4, 2) := by decide +kernel
theorem dX10_showsOf_66 : decode cX10_showsOf 66 = .ok (.ireturn, 1) := by decide +kernel
theorem dX10_showsOf_67 : decode cX10_showsOf 67 = .ok (.iload_n 2, 1) := by decide +kernel
theorem dX10_showsOf_68 : decode cX10_showsOf 68 = .ok (.iconst 2, 1) := by decide +kernel
theorem dX10_showsOf_69 : decode cX10_showsOf 69 = .ok (.if_icmp .ne 7, 3) := by decide +kernel
theorem dX10_showsOf_72 : decode cX10_showsOf 72 = .ok (.iload_n 3, 1) := by decide +kernel
theorem dX10_showsOf_73 : decode cX10_showsOf 73 = .ok (.goto 5, 3) := by decide +kernel
theorem dX10_showsOf_76 : decode cX10_showsOf 76 = .ok (.iload 4, 2) := by decide +kernel
theorem dX10_showsOf_78 : decode cX10_showsOf 78 = .ok (.ireturn, 1) := by decide +kernel
theorem dX10_showsOf_79 : decode cX10_showsOf 79 = .ok (.iload_n 2, 1) := by decide +kernel
theorem dX10_showsOf_80 : decode cX10_showsOf 80 = .ok (.ifCond .ne 8, 3) := by decide +kernel
theorem dX10_showsOf_83 : decode cX10_showsOf 83 = .ok (.iload 4, 2) := by decide +kernel
theorem dX10_showsOf_85 : decode cX10_showsOf 85 = .ok (.goto 4, 3) := by decide +kernel
theorem dX10_showsOf_88 : decode cX10_showsOf 88 = .ok (.iload_n 3, 1) := by decide +kernel
theorem dX10_showsOf_89 : decode cX10_showsOf 89 = .ok (.ireturn, 1) := by decide +kernel
theorem dX10_showsOf_90 : decode cX10_showsOf 90 = .ok (.iload_n 2, 1) := by decide +kernel
theorem dX10_showsOf_91 : decode cX10_showsOf 91 = .ok (.iconst 2, 1) := by decide +kernel
theorem dX10_showsOf_92 : decode cX10_showsOf 92 = .ok (.if_icmp .ne 7, 3) := by decide +kernel
theorem dX10_showsOf_95 : decode cX10_showsOf 95 = .ok (.iload_n 3, 1) := by decide +kernel
theorem dX10_showsOf_96 : decode cX10_showsOf 96 = .ok (.goto 5, 3) := by decide +kernel
theorem dX10_showsOf_99 : decode cX10_showsOf 99 = .ok (.iload 4, 2) := by decide +kernel
theorem dX10_showsOf_101 : decode cX10_showsOf 101 = .ok (.ireturn, 1) := by decide +kernel
theorem dX10_showsOf_102 : decode cX10_showsOf 102 = .ok (.iload_n 3, 1) := by decide +kernel
theorem dX10_showsOf_103 : decode cX10_showsOf 103 = .ok (.ireturn, 1) := by decide +kernel
theorem dX10_tastesOf_0 : decode cX10_tastesOf 0 = .ok (.aload_n 0, 1) := by decide +kernel
theorem dX10_tastesOf_1 : decode cX10_tastesOf 1 = .ok (.aload_n 0, 1) := by decide +kernel
theorem dX10_tastesOf_2 : decode cX10_tastesOf 2 = .ok (.getfield 53, 3) := by decide +kernel
theorem dX10_tastesOf_5 : decode cX10_tastesOf 5 = .ok (.iload_n 1, 1) := by decide +kernel
theorem dX10_tastesOf_6 : decode cX10_tastesOf 6 = .ok (.iaload, 1) := by decide +kernel
theorem dX10_tastesOf_7 : decode cX10_tastesOf 7 = .ok (.iload_n 2, 1) := by decide +kernel
theorem dX10_tastesOf_8 : decode cX10_tastesOf 8 = .ok (.invokevirtual 183, 3) := by decide +kernel
theorem dX10_tastesOf_11 : decode cX10_tastesOf 11 = .ok (.istore_n 3, 1) := by decide +kernel
theorem dX10_tastesOf_12 : decode cX10_tastesOf 12 = .ok (.aload_n 0, 1) := by decide +kernel
theorem dX10_tastesOf_13 : decode cX10_tastesOf 13 = .ok (.aload_n 0, 1) := by decide +kernel
theorem dX10_tastesOf_14 : decode cX10_tastesOf 14 = .ok (.getfield 50, 3) := by decide +kernel
theorem dX10_tastesOf_17 : decode cX10_tastesOf 17 = .ok (.iload_n 1, 1) := by decide +kernel
theorem dX10_tastesOf_18 : decode cX10_tastesOf 18 = .ok (.iaload, 1) := by decide +kernel
theorem dX10_tastesOf_19 : decode cX10_tastesOf 19 = .ok (.iload_n 2, 1) := by decide +kernel
theorem dX10_tastesOf_20 : decode cX10_tastesOf 20 = .ok (.invokevirtual 183, 3) := by decide +kernel
theorem dX10_tastesOf_23 : decode cX10_tastesOf 23 = .ok (.istore 4, 2) := by decide +kernel
theorem dX10_tastesOf_25 : decode cX10_tastesOf 25 = .ok (.aload_n 0, 1) := by decide +kernel
theorem dX10_tastesOf_26 : decode cX10_tastesOf 26 = .ok (.getfield 47, 3) := by decide +kernel
theorem dX10_tastesOf_29 : decode cX10_tastesOf 29 = .ok (.iload_n 1, 1) := by decide +kernel
theorem dX10_tastesOf_30 : decode cX10_tastesOf 30 = .ok (.iaload, 1) := by decide +kernel
theorem dX10_tastesOf_31 : decode cX10_tastesOf 31 = .ok (.tableswitch 58 1 5 #[33, 58, 33, 36, 43], 33) := by decide +kernel
theorem dX10_tastesOf_64 : decode cX10_tastesOf 64 = .ok (.iload 4, 2) := by decide +kernel
theorem dX10_tastesOf_66 : decode cX10_tastesOf 66 = .ok (.ireturn, 1) := by decide +kernel
theorem dX10_tastesOf_67 : decode cX10_tastesOf 67 = .ok (.iload_n 3, 1) := by decide +kernel
theorem dX10_tastesOf_68 : decode cX10_tastesOf 68 = .ok (.iload 4, 2) := by decide +kernel
theorem dX10_tastesOf_70 : decode cX10_tastesOf 70 = .ok (.iadd, 1) := by decide +kernel
theorem dX10_tastesOf_71 : decode cX10_tastesOf 71 = .ok (.iconst 2, 1) := by decide +kernel
theorem dX10_tastesOf_72 : decode cX10_tastesOf 72 = .ok (.idiv, 1) := by decide +kernel
theorem dX10_tastesOf_73 : decode cX10_tastesOf 73 = .ok (.ireturn, 1) := by decide +kernel
theorem dX10_tastesOf_74 : decode cX10_tastesOf 74 = .ok (.iload_n 3, 1) := by decide +kernel
theorem dX10_tastesOf_75 : decode cX10_tastesOf 75 = .ok (.bipush 9, 2) := by decide +kernel
theorem dX10_tastesOf_77 : decode cX10_tastesOf 77 = .ok (.if_icmp .ge 7, 3) := by decide +kernel
theorem dX10_tastesOf_80 : decode cX10_tastesOf 80 = .ok (.iconst 0, 1) := by decide +kernel
theorem dX10_tastesOf_81 : decode cX10_tastesOf 81 = .ok (.goto 7, 3) := by decide +kernel
theorem dX10_tastesOf_84 : decode cX10_tastesOf 84 = .ok (.iload_n 3, 1) := by decide +kernel
theorem dX10_tastesOf_85 : decode cX10_tastesOf 85 = .ok (.bipush 9, 2) := by decide +kernel
theorem dX10_tastesOf_87 : decode cX10_tastesOf 87 = .ok (.isub, 1) := by decide +kernel
theorem dX10_tastesOf_88 : decode cX10_tastesOf 88 = .ok (.ireturn, 1) := by decide +kernel
theorem dX10_tastesOf_89 : decode cX10_tastesOf 89 = .ok (.iload_n 3, 1) := by decide +kernel
theorem dX10_tastesOf_90 : decode cX10_tastesOf 90 = .ok (.ireturn, 1) := by decide +kernel
theorem dX10_shows_0 : decode cX10_shows 0 = .ok (.aload_n 0, 1) := by decide +kernel
theorem dX10_shows_1 : decode cX10_shows 1 = .ok (.iload_n 1, 1) := by decide +kernel
theorem dX10_shows_2 : decode cX10_shows 2 = .ok (.invokevirtual 186, 3) := by decide +kernel
theorem dX10_shows_5 : decode cX10_shows 5 = .ok (.ifCond .eq 40, 3) := by decide +kernel
theorem dX10_shows_8 : decode cX10_shows 8 = .ok (.iload_n 2, 1) := by decide +kernel
theorem dX10_shows_9 : decode cX10_shows 9 = .ok (.i2l, 1) := by decide +kernel
theorem dX10_shows_10 : decode cX10_shows 10 = .ok (.lconst 0, 1) := by decide +kernel
theorem dX10_shows_11 : decode cX10_shows 11 = .ok (.ldc2_w 177, 3) := by decide +kernel
theorem dX10_shows_14 : decode cX10_shows 14 = .ok (.invokestatic 149, 3) := by decide +kernel
theorem dX10_shows_17 : decode cX10_shows 17 = .ok (.ifCond .eq 28, 3) := by decide +kernel
theorem dX10_shows_20 : decode cX10_shows 20 = .ok (.iload_n 2, 1) := by decide +kernel
theorem dX10_shows_21 : decode cX10_shows 21 = .ok (.iconst 3, 1) := by decide +kernel
theorem dX10_shows_22 : decode cX10_shows 22 = .ok (.if_icmp .ge 12, 3) := by decide +kernel
theorem dX10_shows_25 : decode cX10_shows 25 = .ok (.aload_n 0, 1) := by decide +kernel
theorem dX10_shows_26 : decode cX10_shows 26 = .ok (.iload_n 1, 1) := by decide +kernel
theorem dX10_shows_27 : decode cX10_shows 27 = .ok (.iload_n 2, 1) := by decide +kernel
theorem dX10_shows_28 : decode cX10_shows 28 = .ok (.invokevirtual 189, 3) := by decide +kernel
theorem dX10_shows_31 : decode cX10_shows 31 = .ok (.goto 16, 3) := by decide +kernel
theorem dX10_shows_34 : decode cX10_shows 34 = .ok (.aload_n 0, 1) := by decide +kernel
theorem dX10_shows_35 : decode cX10_shows 35 = .ok (.iload_n 1, 1) := by decide +kernel
theorem dX10_shows_36 : decode cX10_shows 36 = .ok (.iload_n 2, 1) := by decide +kernel
theorem dX10_shows_37 : decode cX10_shows 37 = .ok (.iconst 3, 1) := by decide +kernel
theorem dX10_shows_38 : decode cX10_shows 38 = .ok (.isub, 1) := by decide +kernel
theorem dX10_shows_39 : decode cX10_shows 39 = .ok (.invokevirtual 192, 3) := by decide +kernel
theorem dX10_shows_42 : decode cX10_shows 42 = .ok (.goto 5, 3) := by decide +kernel
theorem dX10_shows_45 : decode cX10_shows 45 = .ok (.bipush (-2), 2) := by decide +kernel
theorem dX10_shows_47 : decode cX10_shows 47 = .ok (.ireturn, 1) := by decide +kernel
theorem dX10_weightOf_0 : decode cX10_weightOf 0 = .ok (.iload_n 0, 1) := by decide +kernel
theorem dX10_weightOf_1 : decode cX10_weightOf 1 = .ok (.iconst 1, 1) := by decide +kernel
theorem dX10_weightOf_2 : decode cX10_weightOf 2 = .ok (.if_icmp .ne 7, 3) := by decide +kernel
theorem dX10_weightOf_5 : decode cX10_weightOf 5 = .ok (.iconst 5, 1) := by decide +kernel
theorem dX10_weightOf_6 : decode cX10_weightOf 6 = .ok (.goto 27, 3) := by decide +kernel
theorem dX10_weightOf_9 : decode cX10_weightOf 9 = .ok (.iload_n 0, 1) := by decide +kernel
theorem dX10_weightOf_10 : decode cX10_weightOf 10 = .ok (.iconst 3, 1) := by decide +kernel
theorem dX10_weightOf_11 : decode cX10_weightOf 11 = .ok (.if_icmp .ne 7, 3) := by decide +kernel
theorem dX10_weightOf_14 : decode cX10_weightOf 14 = .ok (.iconst 3, 1) := by decide +kernel
theorem dX10_weightOf_15 : decode cX10_weightOf 15 = .ok (.goto 18, 3) := by decide +kernel
theorem dX10_weightOf_18 : decode cX10_weightOf 18 = .ok (.iload_n 0, 1) := by decide +kernel
theorem dX10_weightOf_19 : decode cX10_weightOf 19 = .ok (.iconst 4, 1) := by decide +kernel
theorem dX10_weightOf_20 : decode cX10_weightOf 20 = .ok (.if_icmp .eq 8, 3) := by decide +kernel
theorem dX10_weightOf_23 : decode cX10_weightOf 23 = .ok (.iload_n 0, 1) := by decide +kernel
theorem dX10_weightOf_24 : decode cX10_weightOf 24 = .ok (.iconst 5, 1) := by decide +kernel
theorem dX10_weightOf_25 : decode cX10_weightOf 25 = .ok (.if_icmp .ne 7, 3) := by decide +kernel
theorem dX10_weightOf_28 : decode cX10_weightOf 28 = .ok (.iconst 1, 1) := by decide +kernel
theorem dX10_weightOf_29 : decode cX10_weightOf 29 = .ok (.goto 4, 3) := by decide +kernel
theorem dX10_weightOf_32 : decode cX10_weightOf 32 = .ok (.iconst 2, 1) := by decide +kernel
theorem dX10_weightOf_33 : decode cX10_weightOf 33 = .ok (.ireturn, 1) := by decide +kernel
theorem dX10_bars_0 : decode cX10_bars 0 = .ok (.iconst 4, 1) := by decide +kernel
theorem dX10_bars_1 : decode cX10_bars 1 = .ok (.iload_n 2, 1) := by decide +kernel
theorem dX10_bars_2 : decode cX10_bars 2 = .ok (.imul, 1) := by decide +kernel
theorem dX10_bars_3 : decode cX10_bars 3 = .ok (.aload_n 0, 1) := by decide +kernel
theorem dX10_bars_4 : decode cX10_bars 4 = .ok (.iload_n 1, 1) := by decide +kernel
theorem dX10_bars_5 : decode cX10_bars 5 = .ok (.iload_n 2, 1) := by decide +kernel
theorem dX10_bars_6 : decode cX10_bars 6 = .ok (.invokevirtual 189, 3) := by decide +kernel
theorem dX10_bars_9 : decode cX10_bars 9 = .ok (.iadd, 1) := by decide +kernel
theorem dX10_bars_10 : decode cX10_bars 10 = .ok (.istore_n 3, 1) := by decide +kernel
theorem dX10_bars_11 : decode cX10_bars 11 = .ok (.aload_n 0, 1) := by decide +kernel
theorem dX10_bars_12 : decode cX10_bars 12 = .ok (.getfield 23, 3) := by decide +kernel
theorem dX10_bars_15 : decode cX10_bars 15 = .ok (.aload_n 0, 1) := by decide +kernel
theorem dX10_bars_16 : decode cX10_bars 16 = .ok (.getfield 50, 3) := by decide +kernel
theorem dX10_bars_19 : decode cX10_bars 19 = .ok (.iload_n 1, 1) := by decide +kernel
theorem dX10_bars_20 : decode cX10_bars 20 = .ok (.iaload, 1) := by decide +kernel
theorem dX10_bars_21 : decode cX10_bars 21 = .ok (.iaload, 1) := by decide +kernel
theorem dX10_bars_22 : decode cX10_bars 22 = .ok (.i2l, 1) := by decide +kernel
theorem dX10_bars_23 : decode cX10_bars 23 = .ok (.aload_n 0, 1) := by decide +kernel
theorem dX10_bars_24 : decode cX10_bars 24 = .ok (.getfield 38, 3) := by decide +kernel
theorem dX10_bars_27 : decode cX10_bars 27 = .ok (.iload_n 3, 1) := by decide +kernel
theorem dX10_bars_28 : decode cX10_bars 28 = .ok (.iaload, 1) := by decide +kernel
theorem dX10_bars_29 : decode cX10_bars 29 = .ok (.i2l, 1) := by decide +kernel
theorem dX10_bars_30 : decode cX10_bars 30 = .ok (.aload_n 0, 1) := by decide +kernel
theorem dX10_bars_31 : decode cX10_bars 31 = .ok (.getfield 41, 3) := by decide +kernel
theorem dX10_bars_34 : decode cX10_bars 34 = .ok (.iload_n 3, 1) := by decide +kernel
theorem dX10_bars_35 : decode cX10_bars 35 = .ok (.iaload, 1) := by decide +kernel
theorem dX10_bars_36 : decode cX10_bars 36 = .ok (.i2l, 1) := by decide +kernel
theorem dX10_bars_37 : decode cX10_bars 37 = .ok (.invokestatic 149, 3) := by decide +kernel
theorem dX10_bars_40 : decode cX10_bars 40 = .ok (.ifCond .ne 7, 3) := by decide +kernel
theorem dX10_bars_43 : decode cX10_bars 43 = .ok (.iconst 1, 1) := by decide +kernel
theorem dX10_bars_44 : decode cX10_bars 44 = .ok (.goto 4, 3) := by decide +kernel
theorem dX10_bars_47 : decode cX10_bars 47 = .ok (.iconst 0, 1) := by decide +kernel
theorem dX10_bars_48 : decode cX10_bars 48 = .ok (.ireturn, 1) := by decide +kernel
theorem dX10_isOdd_0 : decode cX10_isOdd 0 = .ok (.aload_n 0, 1) := by decide +kernel
theorem dX10_isOdd_1 : decode cX10_isOdd 1 = .ok (.iload_n 1, 1) := by decide +kernel
theorem dX10_isOdd_2 : decode cX10_isOdd 2 = .ok (.iload_n 2, 1) := by decide +kernel
theorem dX10_isOdd_3 : decode cX10_isOdd 3 = .ok (.invokevirtual 195, 3) := by decide +kernel
theorem dX10_isOdd_6 : decode cX10_isOdd 6 = .ok (.ifCond .ne 31, 3) := by decide +kernel
theorem dX10_isOdd_9 : decode cX10_isOdd 9 = .ok (.aload_n 0, 1) := by decide +kernel
theorem dX10_isOdd_10 : decode cX10_isOdd 10 = .ok (.iload_n 1, 1) := by decide +kernel
theorem dX10_isOdd_11 : decode cX10_isOdd 11 = .ok (.iload_n 2, 1) := by decide +kernel
theorem dX10_isOdd_12 : decode cX10_isOdd 12 = .ok (.invokevirtual 189, 3) := by decide +kernel
theorem dX10_isOdd_15 : decode cX10_isOdd 15 = .ok (.aload_n 0, 1) := by decide +kernel
theorem dX10_isOdd_16 : decode cX10_isOdd 16 = .ok (.getfield 32, 3) := by decide +kernel
theorem dX10_isOdd_19 : decode cX10_isOdd 19 = .ok (.aload_n 0, 1) := by decide +kernel
theorem dX10_isOdd_20 : decode cX10_isOdd 20 = .ok (.getfield 50, 3) := by decide +kernel
theorem dX10_isOdd_23 : decode cX10_isOdd 23 = .ok (.iload_n 1, 1) := by decide +kernel
theorem dX10_isOdd_24 : decode cX10_isOdd 24 = .ok (.iaload, 1) := by decide +kernel
theorem dX10_isOdd_25 : decode cX10_isOdd 25 = .ok (.iaload, 1) := by decide +kernel
theorem dX10_isOdd_26 : decode cX10_isOdd 26 = .ok (.iload_n 2, 1) := by decide +kernel
theorem dX10_isOdd_27 : decode cX10_isOdd 27 = .ok (.invokestatic 179, 3) := by decide +kernel
theorem dX10_isOdd_30 : decode cX10_isOdd 30 = .ok (.if_icmp .eq 7, 3) := by decide +kernel
theorem dX10_isOdd_33 : decode cX10_isOdd 33 = .ok (.iconst 1, 1) := by decide +kernel
theorem dX10_isOdd_34 : decode cX10_isOdd 34 = .ok (.goto 4, 3) := by decide +kernel
theorem dX10_isOdd_37 : decode cX10_isOdd 37 = .ok (.iconst 0, 1) := by decide +kernel
theorem dX10_isOdd_38 : decode cX10_isOdd 38 = .ok (.ireturn, 1) := by decide +kernel
theorem dX10_barsOf_0 : decode cX10_barsOf 0 = .ok (.aload_n 0, 1) := by decide +kernel
theorem dX10_barsOf_1 : decode cX10_barsOf 1 = .ok (.iload_n 1, 1) := by decide +kernel
theorem dX10_barsOf_2 : decode cX10_barsOf 2 = .ok (.iconst 0, 1) := by decide +kernel
theorem dX10_barsOf_3 : decode cX10_barsOf 3 = .ok (.invokevirtual 195, 3) := by decide +kernel
theorem dX10_barsOf_6 : decode cX10_barsOf 6 = .ok (.ifCond .eq 7, 3) := by decide +kernel
theorem dX10_barsOf_9 : decode cX10_barsOf 9 = .ok (.iconst 1, 1) := by decide +kernel
theorem dX10_barsOf_10 : decode cX10_barsOf 10 = .ok (.goto 4, 3) := by decide +kernel
theorem dX10_barsOf_13 : decode cX10_barsOf 13 = .ok (.iconst 0, 1) := by decide +kernel
theorem dX10_barsOf_14 : decode cX10_barsOf 14 = .ok (.aload_n 0, 1) := by decide +kernel
theorem dX10_barsOf_15 : decode cX10_barsOf 15 = .ok (.iload_n 1, 1) := by decide +kernel
theorem dX10_barsOf_16 : decode cX10_barsOf 16 = .ok (.iconst 1, 1) := by decide +kernel
theorem dX10_barsOf_17 : decode cX10_barsOf 17 = .ok (.invokevirtual 195, 3) := by decide +kernel
theorem dX10_barsOf_20 : decode cX10_barsOf 20 = .ok (.ifCond .eq 7, 3) := by decide +kernel
theorem dX10_barsOf_23 : decode cX10_barsOf 23 = .ok (.iconst 2, 1) := by decide +kernel
theorem dX10_barsOf_24 : decode cX10_barsOf 24 = .ok (.goto 4, 3) := by decide +kernel
theorem dX10_barsOf_27 : decode cX10_barsOf 27 = .ok (.iconst 0, 1) := by decide +kernel
theorem dX10_barsOf_28 : decode cX10_barsOf 28 = .ok (.iadd, 1) := by decide +kernel
theorem dX10_barsOf_29 : decode cX10_barsOf 29 = .ok (.aload_n 0, 1) := by decide +kernel
theorem dX10_barsOf_30 : decode cX10_barsOf 30 = .ok (.iload_n 1, 1) := by decide +kernel
theorem dX10_barsOf_31 : decode cX10_barsOf 31 = .ok (.iconst 2, 1) := by decide +kernel
theorem dX10_barsOf_32 : decode cX10_barsOf 32 = .ok (.invokevirtual 195, 3) := by decide +kernel
theorem dX10_barsOf_35 : decode cX10_barsOf 35 = .ok (.ifCond .eq 7, 3) := by decide +kernel
theorem dX10_barsOf_38 : decode cX10_barsOf 38 = .ok (.iconst 4, 1) := by decide +kernel
theorem dX10_barsOf_39 : decode cX10_barsOf 39 = .ok (.goto 4, 3) := by decide +kernel
theorem dX10_barsOf_42 : decode cX10_barsOf 42 = .ok (.iconst 0, 1) := by decide +kernel
theorem dX10_barsOf_43 : decode cX10_barsOf 43 = .ok (.iadd, 1) := by decide +kernel
theorem dX10_barsOf_44 : decode cX10_barsOf 44 = .ok (.ireturn, 1) := by decide +kernel
theorem dX10_oddsOf_0 : decode cX10_oddsOf 0 = .ok (.aload_n 0, 1) := by decide +kernel
theorem dX10_oddsOf_1 : decode cX10_oddsOf 1 = .ok (.iload_n 1, 1) := by decide +kernel
theorem dX10_oddsOf_2 : decode cX10_oddsOf 2 = .ok (.iconst 0, 1) := by decide +kernel
theorem dX10_oddsOf_3 : decode cX10_oddsOf 3 = .ok (.invokevirtual 199, 3) := by decide +kernel
theorem dX10_oddsOf_6 : decode cX10_oddsOf 6 = .ok (.ifCond .eq 7, 3) := by decide +kernel
theorem dX10_oddsOf_9 : decode cX10_oddsOf 9 = .ok (.iconst 1, 1) := by decide +kernel
theorem dX10_oddsOf_10 : decode cX10_oddsOf 10 = .ok (.goto 4, 3) := by decide +kernel
theorem dX10_oddsOf_13 : decode cX10_oddsOf 13 = .ok (.iconst 0, 1) := by decide +kernel
theorem dX10_oddsOf_14 : decode cX10_oddsOf 14 = .ok (.aload_n 0, 1) := by decide +kernel
theorem dX10_oddsOf_15 : decode cX10_oddsOf 15 = .ok (.iload_n 1, 1) := by decide +kernel
theorem dX10_oddsOf_16 : decode cX10_oddsOf 16 = .ok (.iconst 1, 1) := by decide +kernel
theorem dX10_oddsOf_17 : decode cX10_oddsOf 17 = .ok (.invokevirtual 199, 3) := by decide +kernel
theorem dX10_oddsOf_20 : decode cX10_oddsOf 20 = .ok (.ifCond .eq 7, 3) := by decide +kernel
theorem dX10_oddsOf_23 : decode cX10_oddsOf 23 = .ok (.iconst 2, 1) := by decide +kernel
theorem dX10_oddsOf_24 : decode cX10_oddsOf 24 = .ok (.goto 4, 3) := by decide +kernel
theorem dX10_oddsOf_27 : decode cX10_oddsOf 27 = .ok (.iconst 0, 1) := by decide +kernel
theorem dX10_oddsOf_28 : decode cX10_oddsOf 28 = .ok (.iadd, 1) := by decide +kernel
theorem dX10_oddsOf_29 : decode cX10_oddsOf 29 = .ok (.aload_n 0, 1) := by decide +kernel
theorem dX10_oddsOf_30 : decode cX10_oddsOf 30 = .ok (.iload_n 1, 1) := by decide +kernel
theorem dX10_oddsOf_31 : decode cX10_oddsOf 31 = .ok (.iconst 2, 1) := by decide +kernel
theorem dX10_oddsOf_32 : decode cX10_oddsOf 32 = .ok (.invokevirtual 199, 3) := by decide +kernel
theorem dX10_oddsOf_35 : decode cX10_oddsOf 35 = .ok (.ifCond .eq 7, 3) := by decide +kernel
theorem dX10_oddsOf_38 : decode cX10_oddsOf 38 = .ok (.iconst 4, 1) := by decide +kernel
theorem dX10_oddsOf_39 : decode cX10_oddsOf 39 = .ok (.goto 4, 3) := by decide +kernel
theorem dX10_oddsOf_42 : decode cX10_oddsOf 42 = .ok (.iconst 0, 1) := by decide +kernel
theorem dX10_oddsOf_43 : decode cX10_oddsOf 43 = .ok (.iadd, 1) := by decide +kernel
theorem dX10_oddsOf_44 : decode cX10_oddsOf 44 = .ok (.ireturn, 1) := by decide +kernel
theorem dX10_isBarred_0 : decode cX10_isBarred 0 = .ok (.aload_n 0, 1) := by decide +kernel
theorem dX10_isBarred_1 : decode cX10_isBarred 1 = .ok (.iload_n 1, 1) := by decide +kernel
theorem dX10_isBarred_2 : decode cX10_isBarred 2 = .ok (.invokevirtual 202, 3) := by decide +kernel
theorem dX10_isBarred_5 : decode cX10_isBarred 5 = .ok (.ifCond .ne 17, 3) := by decide +kernel
theorem dX10_isBarred_8 : decode cX10_isBarred 8 = .ok (.aload_n 0, 1) := by decide +kernel
theorem dX10_isBarred_9 : decode cX10_isBarred 9 = .ok (.getfield 26, 3) := by decide +kernel
theorem dX10_isBarred_12 : decode cX10_isBarred 12 = .ok (.aload_n 0, 1) := by decide +kernel
theorem dX10_isBarred_13 : decode cX10_isBarred 13 = .ok (.getfield 50, 3) := by decide +kernel
theorem dX10_isBarred_16 : decode cX10_isBarred 16 = .ok (.iload_n 1, 1) := by decide +kernel
theorem dX10_isBarred_17 : decode cX10_isBarred 17 = .ok (.iaload, 1) := by decide +kernel
theorem dX10_isBarred_18 : decode cX10_isBarred 18 = .ok (.iaload, 1) := by decide +kernel
theorem dX10_isBarred_19 : decode cX10_isBarred 19 = .ok (.ifCond .ne 7, 3) := by decide +kernel
theorem dX10_isBarred_22 : decode cX10_isBarred 22 = .ok (.iconst 1, 1) := by decide +kernel
theorem dX10_isBarred_23 : decode cX10_isBarred 23 = .ok (.goto 4, 3) := by decide +kernel
theorem dX10_isBarred_26 : decode cX10_isBarred 26 = .ok (.iconst 0, 1) := by decide +kernel
theorem dX10_isBarred_27 : decode cX10_isBarred 27 = .ok (.ireturn, 1) := by decide +kernel
theorem dX10_bitsOf_0 : decode cX10_bitsOf 0 = .ok (.iconst 0, 1) := by decide +kernel
theorem dX10_bitsOf_1 : decode cX10_bitsOf 1 = .ok (.istore_n 1, 1) := by decide +kernel
theorem dX10_bitsOf_2 : decode cX10_bitsOf 2 = .ok (.iload_n 0, 1) := by decide +kernel
theorem dX10_bitsOf_3 : decode cX10_bitsOf 3 = .ok (.istore_n 2, 1) := by decide +kernel
theorem dX10_bitsOf_4 : decode cX10_bitsOf 4 = .ok (.iload_n 2, 1) := by decide +kernel
theorem dX10_bitsOf_5 : decode cX10_bitsOf 5 = .ok (.ifCond .eq 15, 3) := by decide +kernel
theorem dX10_bitsOf_8 : decode cX10_bitsOf 8 = .ok (.iinc 1 1, 3) := by decide +kernel
theorem dX10_bitsOf_11 : decode cX10_bitsOf 11 = .ok (.iload_n 2, 1) := by decide +kernel
theorem dX10_bitsOf_12 : decode cX10_bitsOf 12 = .ok (.iload_n 2, 1) := by decide +kernel
theorem dX10_bitsOf_13 : decode cX10_bitsOf 13 = .ok (.iconst 1, 1) := by decide +kernel
theorem dX10_bitsOf_14 : decode cX10_bitsOf 14 = .ok (.isub, 1) := by decide +kernel
theorem dX10_bitsOf_15 : decode cX10_bitsOf 15 = .ok (.iand, 1) := by decide +kernel
theorem dX10_bitsOf_16 : decode cX10_bitsOf 16 = .ok (.istore_n 2, 1) := by decide +kernel
theorem dX10_bitsOf_17 : decode cX10_bitsOf 17 = .ok (.goto (-13), 3) := by decide +kernel
theorem dX10_bitsOf_20 : decode cX10_bitsOf 20 = .ok (.iload_n 1, 1) := by decide +kernel
theorem dX10_bitsOf_21 : decode cX10_bitsOf 21 = .ok (.ireturn, 1) := by decide +kernel
theorem dX10_told_0 : decode cX10_told 0 = .ok (.aload_n 0, 1) := by decide +kernel
theorem dX10_told_1 : decode cX10_told 1 = .ok (.iload_n 1, 1) := by decide +kernel
theorem dX10_told_2 : decode cX10_told 2 = .ok (.invokevirtual 186, 3) := by decide +kernel
theorem dX10_told_5 : decode cX10_told 5 = .ok (.ifCond .ne 6, 3) := by decide +kernel
theorem dX10_told_8 : decode cX10_told 8 = .ok (.bipush (-5), 2) := by decide +kernel
theorem dX10_told_10 : decode cX10_told 10 = .ok (.ireturn, 1) := by decide +kernel
theorem dX10_told_11 : decode cX10_told 11 = .ok (.iload_n 2, 1) := by decide +kernel
theorem dX10_told_12 : decode cX10_told 12 = .ok (.tableswitch 140 0 10 #[60, 67, 74, 80, 86, 100, 106, 116, 122, 128, 134], 60) := by decide +kernel
theorem dX10_told_72 : decode cX10_told 72 = .ok (.aload_n 0, 1) := by decide +kernel
theorem dX10_told_73 : decode cX10_told 73 = .ok (.getfield 47, 3) := by decide +kernel
theorem dX10_told_76 : decode cX10_told 76 = .ok (.iload_n 1, 1) := by decide +kernel
theorem dX10_told_77 : decode cX10_told 77 = .ok (.iaload, 1) := by decide +kernel
theorem dX10_told_78 : decode cX10_told 78 = .ok (.ireturn, 1) := by decide +kernel
theorem dX10_told_79 : decode cX10_told 79 = .ok (.aload_n 0, 1) := by decide +kernel
theorem dX10_told_80 : decode cX10_told 80 = .ok (.getfield 50, 3) := by decide +kernel
theorem dX10_told_83 : decode cX10_told 83 = .ok (.iload_n 1, 1) := by decide +kernel
theorem dX10_told_84 : decode cX10_told 84 = .ok (.iaload, 1) := by decide +kernel
theorem dX10_told_85 : decode cX10_told 85 = .ok (.ireturn, 1) := by decide +kernel
theorem dX10_told_86 : decode cX10_told 86 = .ok (.aload_n 0, 1) := by decide +kernel
theorem dX10_told_87 : decode cX10_told 87 = .ok (.iload_n 1, 1) := by decide +kernel
theorem dX10_told_88 : decode cX10_told 88 = .ok (.invokevirtual 202, 3) := by decide +kernel
theorem dX10_told_91 : decode cX10_told 91 = .ok (.ireturn, 1) := by decide +kernel
theorem dX10_told_92 : decode cX10_told 92 = .ok (.aload_n 0, 1) := by decide +kernel
theorem dX10_told_93 : decode cX10_told 93 = .ok (.iload_n 1, 1) := by decide +kernel
theorem dX10_told_94 : decode cX10_told 94 = .ok (.invokevirtual 206, 3) := by decide +kernel
theorem dX10_told_97 : decode cX10_told 97 = .ok (.ireturn, 1) := by decide +kernel
theorem dX10_told_98 : decode cX10_told 98 = .ok (.aload_n 0, 1) := by decide +kernel
theorem dX10_told_99 : decode cX10_told 99 = .ok (.iload_n 1, 1) := by decide +kernel
theorem dX10_told_100 : decode cX10_told 100 = .ok (.invokevirtual 209, 3) := by decide +kernel
theorem dX10_told_103 : decode cX10_told 103 = .ok (.ifCond .eq 7, 3) := by decide +kernel
theorem dX10_told_106 : decode cX10_told 106 = .ok (.iconst 1, 1) := by decide +kernel
theorem dX10_told_107 : decode cX10_told 107 = .ok (.goto 4, 3) := by decide +kernel
theorem dX10_told_110 : decode cX10_told 110 = .ok (.iconst 0, 1) := by decide +kernel
theorem dX10_told_111 : decode cX10_told 111 = .ok (.ireturn, 1) := by decide +kernel
theorem dX10_told_112 : decode cX10_told 112 = .ok (.aload_n 0, 1) := by decide +kernel
theorem dX10_told_113 : decode cX10_told 113 = .ok (.iload_n 1, 1) := by decide +kernel
theorem dX10_told_114 : decode cX10_told 114 = .ok (.invokevirtual 212, 3) := by decide +kernel
theorem dX10_told_117 : decode cX10_told 117 = .ok (.ireturn, 1) := by decide +kernel
theorem dX10_told_118 : decode cX10_told 118 = .ok (.aload_n 0, 1) := by decide +kernel
theorem dX10_told_119 : decode cX10_told 119 = .ok (.getfield 47, 3) := by decide +kernel
theorem dX10_told_122 : decode cX10_told 122 = .ok (.iload_n 1, 1) := by decide +kernel
theorem dX10_told_123 : decode cX10_told 123 = .ok (.iaload, 1) := by decide +kernel
theorem dX10_told_124 : decode cX10_told 124 = .ok (.invokestatic 215, 3) := by decide +kernel
theorem dX10_told_127 : decode cX10_told 127 = .ok (.ireturn, 1) := by decide +kernel
theorem dX10_told_128 : decode cX10_told 128 = .ok (.aload_n 0, 1) := by decide +kernel
theorem dX10_told_129 : decode cX10_told 129 = .ok (.iload_n 1, 1) := by decide +kernel
theorem dX10_told_130 : decode cX10_told 130 = .ok (.invokevirtual 218, 3) := by decide +kernel
theorem dX10_told_133 : decode cX10_told 133 = .ok (.ireturn, 1) := by decide +kernel
theorem dX10_told_134 : decode cX10_told 134 = .ok (.aload_n 0, 1) := by decide +kernel
theorem dX10_told_135 : decode cX10_told 135 = .ok (.iload_n 1, 1) := by decide +kernel
theorem dX10_told_136 : decode cX10_told 136 = .ok (.invokevirtual 221, 3) := by decide +kernel
theorem dX10_told_139 : decode cX10_told 139 = .ok (.ireturn, 1) := by decide +kernel
theorem dX10_told_140 : decode cX10_told 140 = .ok (.aload_n 0, 1) := by decide +kernel
theorem dX10_told_141 : decode cX10_told 141 = .ok (.iload_n 1, 1) := by decide +kernel
theorem dX10_told_142 : decode cX10_told 142 = .ok (.invokevirtual 224, 3) := by decide +kernel
theorem dX10_told_145 : decode cX10_told 145 = .ok (.ireturn, 1) := by decide +kernel
theorem dX10_told_146 : decode cX10_told 146 = .ok (.aload_n 0, 1) := by decide +kernel
theorem dX10_told_147 : decode cX10_told 147 = .ok (.iload_n 1, 1) := by decide +kernel
theorem dX10_told_148 : decode cX10_told 148 = .ok (.invokevirtual 227, 3) := by decide +kernel
theorem dX10_told_151 : decode cX10_told 151 = .ok (.ireturn, 1) := by decide +kernel
theorem dX10_told_152 : decode cX10_told 152 = .ok (.bipush (-5), 2) := by decide +kernel
theorem dX10_told_154 : decode cX10_told 154 = .ok (.ireturn, 1) := by decide +kernel
theorem dX10_lastOf_0 : decode cX10_lastOf 0 = .ok (.iload_n 2, 1) := by decide +kernel
theorem dX10_lastOf_1 : decode cX10_lastOf 1 = .ok (.iconst 1, 1) := by decide +kernel
theorem dX10_lastOf_2 : decode cX10_lastOf 2 = .ok (.isub, 1) := by decide +kernel
theorem dX10_lastOf_3 : decode cX10_lastOf 3 = .ok (.istore_n 3, 1) := by decide +kernel
theorem dX10_lastOf_4 : decode cX10_lastOf 4 = .ok (.iload_n 3, 1) := by decide +kernel
theorem dX10_lastOf_5 : decode cX10_lastOf 5 = .ok (.ifCond .lt 21, 3) := by decide +kernel
theorem dX10_lastOf_8 : decode cX10_lastOf 8 = .ok (.aload_n 0, 1) := by decide +kernel
theorem dX10_lastOf_9 : decode cX10_lastOf 9 = .ok (.getfield 59, 3) := by decide +kernel
theorem dX10_lastOf_12 : decode cX10_lastOf 12 = .ok (.iload_n 3, 1) := by decide +kernel
theorem dX10_lastOf_13 : decode cX10_lastOf 13 = .ok (.iaload, 1) := by decide +kernel
theorem dX10_lastOf_14 : decode cX10_lastOf 14 = .ok (.iload_n 1, 1) := by decide +kernel
theorem dX10_lastOf_15 : decode cX10_lastOf 15 = .ok (.if_icmp .ne 5, 3) := by decide +kernel
theorem dX10_lastOf_18 : decode cX10_lastOf 18 = .ok (.iload_n 3, 1) := by decide +kernel
theorem dX10_lastOf_19 : decode cX10_lastOf 19 = .ok (.ireturn, 1) := by decide +kernel
theorem dX10_lastOf_20 : decode cX10_lastOf 20 = .ok (.iinc 3 (-1), 3) := by decide +kernel
theorem dX10_lastOf_23 : decode cX10_lastOf 23 = .ok (.goto (-19), 3) := by decide +kernel
theorem dX10_lastOf_26 : decode cX10_lastOf 26 = .ok (.iconst (-1), 1) := by decide +kernel
theorem dX10_lastOf_27 : decode cX10_lastOf 27 = .ok (.ireturn, 1) := by decide +kernel
theorem dX10_sale_0 : decode cX10_sale 0 = .ok (.aload_n 0, 1) := by decide +kernel
theorem dX10_sale_1 : decode cX10_sale 1 = .ok (.iload_n 1, 1) := by decide +kernel
theorem dX10_sale_2 : decode cX10_sale 2 = .ok (.invokevirtual 186, 3) := by decide +kernel
theorem dX10_sale_5 : decode cX10_sale 5 = .ok (.ifCond .eq 51, 3) := by decide +kernel
theorem dX10_sale_8 : decode cX10_sale 8 = .ok (.iload_n 2, 1) := by decide +kernel
theorem dX10_sale_9 : decode cX10_sale 9 = .ok (.i2l, 1) := by decide +kernel
theorem dX10_sale_10 : decode cX10_sale 10 = .ok (.lconst 0, 1) := by decide +kernel
theorem dX10_sale_11 : decode cX10_sale 11 = .ok (.ldc2_w 155, 3) := by decide +kernel
theorem dX10_sale_14 : decode cX10_sale 14 = .ok (.invokestatic 149, 3) := by decide +kernel
theorem dX10_sale_17 : decode cX10_sale 17 = .ok (.ifCond .eq 39, 3) := by decide +kernel
theorem dX10_sale_20 : decode cX10_sale 20 = .ok (.iload_n 2, 1) := by decide +kernel
theorem dX10_sale_21 : decode cX10_sale 21 = .ok (.bipush 10, 2) := by decide +kernel
theorem dX10_sale_23 : decode cX10_sale 23 = .ok (.idiv, 1) := by decide +kernel
theorem dX10_sale_24 : decode cX10_sale 24 = .ok (.iload_n 2, 1) := by decide +kernel
theorem dX10_sale_25 : decode cX10_sale 25 = .ok (.bipush 10, 2) := by decide +kernel
theorem dX10_sale_27 : decode cX10_sale 27 = .ok (.irem, 1) := by decide +kernel
theorem dX10_sale_28 : decode cX10_sale 28 = .ok (.if_icmp .eq 28, 3) := by decide +kernel
theorem dX10_sale_31 : decode cX10_sale 31 = .ok (.iload_n 3, 1) := by decide +kernel
theorem dX10_sale_32 : decode cX10_sale 32 = .ok (.i2l, 1) := by decide +kernel
theorem dX10_sale_33 : decode cX10_sale 33 = .ok (.lconst 0, 1) := by decide +kernel
theorem dX10_sale_34 : decode cX10_sale 34 = .ok (.ldc2_w 230, 3) := by decide +kernel
theorem dX10_sale_37 : decode cX10_sale 37 = .ok (.invokestatic 149, 3) := by decide +kernel
theorem dX10_sale_40 : decode cX10_sale 40 = .ok (.ifCond .eq 16, 3) := by decide +kernel
theorem dX10_sale_43 : decode cX10_sale 43 = .ok (.iload 4, 2) := by decide +kernel
theorem dX10_sale_45 : decode cX10_sale 45 = .ok (.i2l, 1) := by decide +kernel
theorem dX10_sale_46 : decode cX10_sale 46 = .ok (.lconst 0, 1) := by decide +kernel
theorem dX10_sale_47 : decode cX10_sale 47 = .ok (.ldc2_w 155, 3) := by decide +kernel
theorem dX10_sale_50 : decode cX10_sale 50 = .ok (.invokestatic 149, 3) := by decide +kernel
theorem dX10_sale_53 : decode cX10_sale 53 = .ok (.ifCond .ne 6, 3) := by decide +kernel
theorem dX10_sale_56 : decode cX10_sale 56 = .ok (.bipush (-2), 2) := by decide +kernel
theorem dX10_sale_58 : decode cX10_sale 58 = .ok (.ireturn, 1) := by decide +kernel
theorem dX10_sale_59 : decode cX10_sale 59 = .ok (.aload_n 0, 1) := by decide +kernel
theorem dX10_sale_60 : decode cX10_sale 60 = .ok (.iload_n 1, 1) := by decide +kernel
theorem dX10_sale_61 : decode cX10_sale 61 = .ok (.aload_n 0, 1) := by decide +kernel
theorem dX10_sale_62 : decode cX10_sale 62 = .ok (.getfield 232, 3) := by decide +kernel
theorem dX10_sale_65 : decode cX10_sale 65 = .ok (.invokevirtual 235, 3) := by decide +kernel
theorem dX10_sale_68 : decode cX10_sale 68 = .ok (.istore 5, 2) := by decide +kernel
theorem dX10_sale_70 : decode cX10_sale 70 = .ok (.iload 5, 2) := by decide +kernel
theorem dX10_sale_72 : decode cX10_sale 72 = .ok (.iconst (-1), 1) := by decide +kernel
theorem dX10_sale_73 : decode cX10_sale 73 = .ok (.if_icmp .eq 18, 3) := by decide +kernel
theorem dX10_sale_76 : decode cX10_sale 76 = .ok (.iload 4, 2) := by decide +kernel
theorem dX10_sale_78 : decode cX10_sale 78 = .ok (.aload_n 0, 1) := by decide +kernel
theorem dX10_sale_79 : decode cX10_sale 79 = .ok (.getfield 71, 3) := by decide +kernel
theorem dX10_sale_82 : decode cX10_sale 82 = .ok (.iload 5, 2) := by decide +kernel
theorem dX10_sale_84 : decode cX10_sale 84 = .ok (.iaload, 1) := by decide +kernel
theorem dX10_sale_85 : decode cX10_sale 85 = .ok (.if_icmp .ge 6, 3) := by decide +kernel
theorem dX10_sale_88 : decode cX10_sale 88 = .ok (.bipush (-2), 2) := by decide +kernel
