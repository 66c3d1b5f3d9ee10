theorem dX0_init_0 : decode cX0_init 0 = .ok (.aload_n 0, 1) := by decide +kernel
theorem dX0_init_1 : decode cX0_init 1 = .ok (.invokespecial 3, 3) := by decide +kernel
theorem dX0_init_4 : decode cX0_init 4 = .ok (.aload_n 0, 1) := by decide +kernel
theorem dX0_init_5 : decode cX0_init 5 = .ok (.bipush 12, 2) := by decide +kernel
theorem dX0_init_7 : decode cX0_init 7 = .ok (.newarray .int, 2) := by decide +kernel
theorem dX0_init_9 : decode cX0_init 9 = .ok (.putfield 9, 3) := by decide +kernel
theorem dX0_init_12 : decode cX0_init 12 = .ok (.aload_n 0, 1) := by decide +kernel
theorem dX0_init_13 : decode cX0_init 13 = .ok (.bipush 12, 2) := by decide +kernel
theorem dX0_init_15 : decode cX0_init 15 = .ok (.newarray .int, 2) := by decide +kernel
theorem dX0_init_17 : decode cX0_init 17 = .ok (.putfield 15, 3) := by decide +kernel
theorem dX0_init_20 : decode cX0_init 20 = .ok (.aload_n 0, 1) := by decide +kernel
theorem dX0_init_21 : decode cX0_init 21 = .ok (.iconst 3, 1) := by decide +kernel
theorem dX0_init_22 : decode cX0_init 22 = .ok (.newarray .int, 2) := by decide +kernel
theorem dX0_init_24 : decode cX0_init 24 = .ok (.putfield 18, 3) := by decide +kernel
theorem dX0_init_27 : decode cX0_init 27 = .ok (.aload_n 0, 1) := by decide +kernel
theorem dX0_init_28 : decode cX0_init 28 = .ok (.getfield 15, 3) := by decide +kernel
theorem dX0_init_31 : decode cX0_init 31 = .ok (.bipush 99, 2) := by decide +kernel
theorem dX0_init_33 : decode cX0_init 33 = .ok (.invokestatic 21, 3) := by decide +kernel
theorem dX0_init_36 : decode cX0_init 36 = .ok (.aload_n 0, 1) := by decide +kernel
theorem dX0_init_37 : decode cX0_init 37 = .ok (.getfield 18, 3) := by decide +kernel
theorem dX0_init_40 : decode cX0_init 40 = .ok (.bipush 100, 2) := by decide +kernel
theorem dX0_init_42 : decode cX0_init 42 = .ok (.invokestatic 21, 3) := by decide +kernel
theorem dX0_init_45 : decode cX0_init 45 = .ok (.return_, 1) := by decide +kernel
theorem dX0_place_0 : decode cX0_place 0 = .ok (.iload_n 0, 1) := by decide +kernel
theorem dX0_place_1 : decode cX0_place 1 = .ok (.ifCond .lt 25, 3) := by decide +kernel
theorem dX0_place_4 : decode cX0_place 4 = .ok (.iload_n 0, 1) := by decide +kernel
theorem dX0_place_5 : decode cX0_place 5 = .ok (.iconst 3, 1) := by decide +kernel
theorem dX0_place_6 : decode cX0_place 6 = .ok (.if_icmp .ge 20, 3) := by decide +kernel
theorem dX0_place_9 : decode cX0_place 9 = .ok (.iload_n 1, 1) := by decide +kernel
theorem dX0_place_10 : decode cX0_place 10 = .ok (.ifCond .lt 16, 3) := by decide +kernel
theorem dX0_place_13 : decode cX0_place 13 = .ok (.iload_n 1, 1) := by decide +kernel
theorem dX0_place_14 : decode cX0_place 14 = .ok (.iconst 4, 1) := by decide +kernel
theorem dX0_place_15 : decode cX0_place 15 = .ok (.if_icmp .ge 11, 3) := by decide +kernel
theorem dX0_place_18 : decode cX0_place 18 = .ok (.iload_n 0, 1) := by decide +kernel
theorem dX0_place_19 : decode cX0_place 19 = .ok (.iconst 4, 1) := by decide +kernel
theorem dX0_place_20 : decode cX0_place 20 = .ok (.imul, 1) := by decide +kernel
theorem dX0_place_21 : decode cX0_place 21 = .ok (.iload_n 1, 1) := by decide +kernel
theorem dX0_place_22 : decode cX0_place 22 = .ok (.iadd, 1) := by decide +kernel
theorem dX0_place_23 : decode cX0_place 23 = .ok (.goto 4, 3) := by decide +kernel
theorem dX0_place_26 : decode cX0_place 26 = .ok (.iconst (-1), 1) := by decide +kernel
theorem dX0_place_27 : decode cX0_place 27 = .ok (.ireturn, 1) := by decide +kernel
theorem dX0_write_0 : decode cX0_write 0 = .ok (.iload_n 1, 1) := by decide +kernel
theorem dX0_write_1 : decode cX0_write 1 = .ok (.iload_n 2, 1) := by decide +kernel
theorem dX0_write_2 : decode cX0_write 2 = .ok (.invokestatic 27, 3) := by decide +kernel
theorem dX0_write_5 : decode cX0_write 5 = .ok (.istore 5, 2) := by decide +kernel
theorem dX0_write_7 : decode cX0_write 7 = .ok (.iload 5, 2) := by decide +kernel
theorem dX0_write_9 : decode cX0_write 9 = .ok (.iconst (-1), 1) := by decide +kernel
theorem dX0_write_10 : decode cX0_write 10 = .ok (.if_icmp .eq 20, 3) := by decide +kernel
theorem dX0_write_13 : decode cX0_write 13 = .ok (.aload_n 0, 1) := by decide +kernel
theorem dX0_write_14 : decode cX0_write 14 = .ok (.getfield 9, 3) := by decide +kernel
theorem dX0_write_17 : decode cX0_write 17 = .ok (.iload 5, 2) := by decide +kernel
theorem dX0_write_19 : decode cX0_write 19 = .ok (.iload_n 3, 1) := by decide +kernel
theorem dX0_write_20 : decode cX0_write 20 = .ok (.iastore, 1) := by decide +kernel
theorem dX0_write_21 : decode cX0_write 21 = .ok (.aload_n 0, 1) := by decide +kernel
theorem dX0_write_22 : decode cX0_write 22 = .ok (.getfield 15, 3) := by decide +kernel
theorem dX0_write_25 : decode cX0_write 25 = .ok (.iload 5, 2) := by decide +kernel
theorem dX0_write_27 : decode cX0_write 27 = .ok (.iload 4, 2) := by decide +kernel
theorem dX0_write_29 : decode cX0_write 29 = .ok (.iastore, 1) := by decide +kernel
theorem dX0_write_30 : decode cX0_write 30 = .ok (.return_, 1) := by decide +kernel
theorem dX0_bars_0 : decode cX0_bars 0 = .ok (.iload_n 2, 1) := by decide +kernel
theorem dX0_bars_1 : decode cX0_bars 1 = .ok (.aload_n 1, 1) := by decide +kernel
theorem dX0_bars_2 : decode cX0_bars 2 = .ok (.getfield 31, 3) := by decide +kernel
theorem dX0_bars_5 : decode cX0_bars 5 = .ok (.iload_n 2, 1) := by decide +kernel
theorem dX0_bars_6 : decode cX0_bars 6 = .ok (.invokestatic 37, 3) := by decide +kernel
theorem dX0_bars_9 : decode cX0_bars 9 = .ok (.invokestatic 27, 3) := by decide +kernel
theorem dX0_bars_12 : decode cX0_bars 12 = .ok (.istore_n 3, 1) := by decide +kernel
theorem dX0_bars_13 : decode cX0_bars 13 = .ok (.iload_n 3, 1) := by decide +kernel
theorem dX0_bars_14 : decode cX0_bars 14 = .ok (.iconst (-1), 1) := by decide +kernel
theorem dX0_bars_15 : decode cX0_bars 15 = .ok (.if_icmp .eq 35, 3) := by decide +kernel
theorem dX0_bars_18 : decode cX0_bars 18 = .ok (.aload_n 1, 1) := by decide +kernel
theorem dX0_bars_19 : decode cX0_bars 19 = .ok (.getfield 40, 3) := by decide +kernel
theorem dX0_bars_22 : decode cX0_bars 22 = .ok (.getfield 44, 3) := by decide +kernel
theorem dX0_bars_25 : decode cX0_bars 25 = .ok (.aload_n 0, 1) := by decide +kernel
theorem dX0_bars_26 : decode cX0_bars 26 = .ok (.getfield 9, 3) := by decide +kernel
theorem dX0_bars_29 : decode cX0_bars 29 = .ok (.iload_n 3, 1) := by decide +kernel
theorem dX0_bars_30 : decode cX0_bars 30 = .ok (.iaload, 1) := by decide +kernel
theorem dX0_bars_31 : decode cX0_bars 31 = .ok (.if_icmp .lt 19, 3) := by decide +kernel
theorem dX0_bars_34 : decode cX0_bars 34 = .ok (.aload_n 1, 1) := by decide +kernel
theorem dX0_bars_35 : decode cX0_bars 35 = .ok (.getfield 40, 3) := by decide +kernel
theorem dX0_bars_38 : decode cX0_bars 38 = .ok (.getfield 44, 3) := by decide +kernel
theorem dX0_bars_41 : decode cX0_bars 41 = .ok (.aload_n 0, 1) := by decide +kernel
theorem dX0_bars_42 : decode cX0_bars 42 = .ok (.getfield 15, 3) := by decide +kernel
theorem dX0_bars_45 : decode cX0_bars 45 = .ok (.iload_n 3, 1) := by decide +kernel
theorem dX0_bars_46 : decode cX0_bars 46 = .ok (.iaload, 1) := by decide +kernel
theorem dX0_bars_47 : decode cX0_bars 47 = .ok (.if_icmp .le 7, 3) := by decide +kernel
theorem dX0_bars_50 : decode cX0_bars 50 = .ok (.iconst 1, 1) := by decide +kernel
theorem dX0_bars_51 : decode cX0_bars 51 = .ok (.goto 4, 3) := by decide +kernel
theorem dX0_bars_54 : decode cX0_bars 54 = .ok (.iconst 0, 1) := by decide +kernel
theorem dX0_bars_55 : decode cX0_bars 55 = .ok (.ireturn, 1) := by decide +kernel
theorem dX0_become_0 : decode cX0_become 0 = .ok (.aload_n 1, 1) := by decide +kernel
theorem dX0_become_1 : decode cX0_become 1 = .ok (.getfield 9, 3) := by decide +kernel
theorem dX0_become_4 : decode cX0_become 4 = .ok (.iconst 0, 1) := by decide +kernel
theorem dX0_become_5 : decode cX0_become 5 = .ok (.aload_n 0, 1) := by decide +kernel
theorem dX0_become_6 : decode cX0_become 6 = .ok (.getfield 9, 3) := by decide +kernel
theorem dX0_become_9 : decode cX0_become 9 = .ok (.iconst 0, 1) := by decide +kernel
theorem dX0_become_10 : decode cX0_become 10 = .ok (.bipush 12, 2) := by decide +kernel
theorem dX0_become_12 : decode cX0_become 12 = .ok (.invokestatic 49, 3) := by decide +kernel
theorem dX0_become_15 : decode cX0_become 15 = .ok (.aload_n 1, 1) := by decide +kernel
theorem dX0_become_16 : decode cX0_become 16 = .ok (.getfield 15, 3) := by decide +kernel
theorem dX0_become_19 : decode cX0_become 19 = .ok (.iconst 0, 1) := by decide +kernel
theorem dX0_become_20 : decode cX0_become 20 = .ok (.aload_n 0, 1) := by decide +kernel
theorem dX0_become_21 : decode cX0_become 21 = .ok (.getfield 15, 3) := by decide +kernel
theorem dX0_become_24 : decode cX0_become 24 = .ok (.iconst 0, 1) := by decide +kernel
theorem dX0_become_25 : decode cX0_become 25 = .ok (.bipush 12, 2) := by decide +kernel
theorem dX0_become_27 : decode cX0_become 27 = .ok (.invokestatic 49, 3) := by decide +kernel
theorem dX0_become_30 : decode cX0_become 30 = .ok (.aload_n 1, 1) := by decide +kernel
theorem dX0_become_31 : decode cX0_become 31 = .ok (.getfield 18, 3) := by decide +kernel
theorem dX0_become_34 : decode cX0_become 34 = .ok (.iconst 0, 1) := by decide +kernel
theorem dX0_become_35 : decode cX0_become 35 = .ok (.aload_n 0, 1) := by decide +kernel
theorem dX0_become_36 : decode cX0_become 36 = .ok (.getfield 18, 3) := by decide +kernel
theorem dX0_become_39 : decode cX0_become 39 = .ok (.iconst 0, 1) := by decide +kernel
theorem dX0_become_40 : decode cX0_become 40 = .ok (.iconst 3, 1) := by decide +kernel
theorem dX0_become_41 : decode cX0_become 41 = .ok (.invokestatic 49, 3) := by decide +kernel
theorem dX0_become_44 : decode cX0_become 44 = .ok (.return_, 1) := by decide +kernel
theorem dX1_init_0 : decode cX1_init 0 = .ok (.aload_n 0, 1) := by decide +kernel
theorem dX1_init_1 : decode cX1_init 1 = .ok (.invokespecial 3, 3) := by decide +kernel
theorem dX1_init_4 : decode cX1_init 4 = .ok (.aload_n 0, 1) := by decide +kernel
theorem dX1_init_5 : decode cX1_init 5 = .ok (.iload_n 1, 1) := by decide +kernel
theorem dX1_init_6 : decode cX1_init 6 = .ok (.putfield 9, 3) := by decide +kernel
theorem dX1_init_9 : decode cX1_init 9 = .ok (.aload_n 0, 1) := by decide +kernel
theorem dX1_init_10 : decode cX1_init 10 = .ok (.aload_n 2, 1) := by decide +kernel
theorem dX1_init_11 : decode cX1_init 11 = .ok (.putfield 15, 3) := by decide +kernel
theorem dX1_init_14 : decode cX1_init 14 = .ok (.aload_n 0, 1) := by decide +kernel
theorem dX1_init_15 : decode cX1_init 15 = .ok (.aload_n 3, 1) := by decide +kernel
theorem dX1_init_16 : decode cX1_init 16 = .ok (.putfield 19, 3) := by decide +kernel
theorem dX1_init_19 : decode cX1_init 19 = .ok (.aload_n 0, 1) := by decide +kernel
theorem dX1_init_20 : decode cX1_init 20 = .ok (.iload_n 1, 1) := by decide +kernel
theorem dX1_init_21 : decode cX1_init 21 = .ok (.aload_n 2, 1) := by decide +kernel
theorem dX1_init_22 : decode cX1_init 22 = .ok (.getfield 22, 3) := by decide +kernel
theorem dX1_init_25 : decode cX1_init 25 = .ok (.iload 4, 2) := by decide +kernel
theorem dX1_init_27 : decode cX1_init 27 = .ok (.invokestatic 27, 3) := by decide +kernel
theorem dX1_init_30 : decode cX1_init 30 = .ok (.putfield 31, 3) := by decide +kernel
theorem dX1_init_33 : decode cX1_init 33 = .ok (.aload_n 0, 1) := by decide +kernel
theorem dX1_init_34 : decode cX1_init 34 = .ok (.iconst (-1), 1) := by decide +kernel
theorem dX1_init_35 : decode cX1_init 35 = .ok (.putfield 34, 3) := by decide +kernel
theorem dX1_init_38 : decode cX1_init 38 = .ok (.return_, 1) := by decide +kernel
theorem dX1_shownParts_0 : decode cX1_shownParts 0 = .ok (.iload_n 0, 1) := by decide +kernel
theorem dX1_shownParts_1 : decode cX1_shownParts 1 = .ok (.iconst 5, 1) := by decide +kernel
theorem dX1_shownParts_2 : decode cX1_shownParts 2 = .ok (.invokestatic 37, 3) := by decide +kernel
theorem dX1_shownParts_5 : decode cX1_shownParts 5 = .ok (.ifCond .eq 11, 3) := by decide +kernel
theorem dX1_shownParts_8 : decode cX1_shownParts 8 = .ok (.getstatic 41, 3) := by decide +kernel
theorem dX1_shownParts_11 : decode cX1_shownParts 11 = .ok (.iload_n 0, 1) := by decide +kernel
theorem dX1_shownParts_12 : decode cX1_shownParts 12 = .ok (.iaload, 1) := by decide +kernel
theorem dX1_shownParts_13 : decode cX1_shownParts 13 = .ok (.goto 4, 3) := by decide +kernel
theorem dX1_shownParts_16 : decode cX1_shownParts 16 = .ok (.iconst 0, 1) := by decide +kernel
theorem dX1_shownParts_17 : decode cX1_shownParts 17 = .ok (.istore_n 3, 1) := by decide +kernel
theorem dX1_shownParts_18 : decode cX1_shownParts 18 = .ok (.iconst 0, 1) := by decide +kernel
theorem dX1_shownParts_19 : decode cX1_shownParts 19 = .ok (.istore 4, 2) := by decide +kernel
theorem dX1_shownParts_21 : decode cX1_shownParts 21 = .ok (.iconst 0, 1) := by decide +kernel
theorem dX1_shownParts_22 : decode cX1_shownParts 22 = .ok (.istore 5, 2) := by decide +kernel
theorem dX1_shownParts_24 : decode cX1_shownParts 24 = .ok (.iload 5, 2) := by decide +kernel
theorem dX1_shownParts_26 : decode cX1_shownParts 26 = .ok (.iconst 3, 1) := by decide +kernel
theorem dX1_shownParts_27 : decode cX1_shownParts 27 = .ok (.if_icmp .ge 37, 3) := by decide +kernel
theorem dX1_shownParts_30 : decode cX1_shownParts 30 = .ok (.iload 4, 2) := by decide +kernel
theorem dX1_shownParts_32 : decode cX1_shownParts 32 = .ok (.bipush 10, 2) := by decide +kernel
theorem dX1_shownParts_34 : decode cX1_shownParts 34 = .ok (.imul, 1) := by decide +kernel
theorem dX1_shownParts_35 : decode cX1_shownParts 35 = .ok (.iload_n 3, 1) := by decide +kernel
theorem dX1_shownParts_36 : decode cX1_shownParts 36 = .ok (.iload 5, 2) := by decide +kernel
theorem dX1_shownParts_38 : decode cX1_shownParts 38 = .ok (.ishr, 1) := by decide +kernel
theorem dX1_shownParts_39 : decode cX1_shownParts 39 = .ok (.iconst 1, 1) := by decide +kernel
theorem dX1_shownParts_40 : decode cX1_shownParts 40 = .ok (.iand, 1) := by decide +kernel
theorem dX1_shownParts_41 : decode cX1_shownParts 41 = .ok (.iconst 1, 1) := by decide +kernel
theorem dX1_shownParts_42 : decode cX1_shownParts 42 = .ok (.if_icmp .ne 7, 3) := by decide +kernel
theorem dX1_shownParts_45 : decode cX1_shownParts 45 = .ok (.iload_n 1, 1) := by decide +kernel
theorem dX1_shownParts_46 : decode cX1_shownParts 46 = .ok (.goto 4, 3) := by decide +kernel
theorem dX1_shownParts_49 : decode cX1_shownParts 49 = .ok (.iload_n 2, 1) := by decide +kernel
theorem dX1_shownParts_50 : decode cX1_shownParts 50 = .ok (.iload 5, 2) := by decide +kernel
theorem dX1_shownParts_52 : decode cX1_shownParts 52 = .ok (.invokestatic 45, 3) := by decide +kernel
theorem dX1_shownParts_55 : decode cX1_shownParts 55 = .ok (.iadd, 1) := by decide +kernel
theorem dX1_shownParts_56 : decode cX1_shownParts 56 = .ok (.istore 4, 2) := by decide +kernel
theorem dX1_shownParts_58 : decode cX1_shownParts 58 = .ok (.iinc 5 1, 3) := by decide +kernel
theorem dX1_shownParts_61 : decode cX1_shownParts 61 = .ok (.goto (-37), 3) := by decide +kernel
theorem dX1_shownParts_64 : decode cX1_shownParts 64 = .ok (.iload 4, 2) := by decide +kernel
theorem dX1_shownParts_66 : decode cX1_shownParts 66 = .ok (.ireturn, 1) := by decide +kernel
theorem dX1_tasted_0 : decode cX1_tasted 0 = .ok (.aload_n 0, 1) := by decide +kernel
theorem dX1_tasted_1 : decode cX1_tasted 1 = .ok (.getfield 9, 3) := by decide +kernel
theorem dX1_tasted_4 : decode cX1_tasted 4 = .ok (.tableswitch 81 1 5 #[36, 81, 36, 45, 65], 36) := by decide +kernel
theorem dX1_tasted_40 : decode cX1_tasted 40 = .ok (.aload_n 0, 1) := by decide +kernel
theorem dX1_tasted_41 : decode cX1_tasted 41 = .ok (.getfield 15, 3) := by decide +kernel
theorem dX1_tasted_44 : decode cX1_tasted 44 = .ok (.iload_n 1, 1) := by decide +kernel
theorem dX1_tasted_45 : decode cX1_tasted 45 = .ok (.invokevirtual 49, 3) := by decide +kernel
theorem dX1_tasted_48 : decode cX1_tasted 48 = .ok (.ireturn, 1) := by decide +kernel
theorem dX1_tasted_49 : decode cX1_tasted 49 = .ok (.aload_n 0, 1) := by decide +kernel
theorem dX1_tasted_50 : decode cX1_tasted 50 = .ok (.getfield 19, 3) := by decide +kernel
theorem dX1_tasted_53 : decode cX1_tasted 53 = .ok (.iload_n 1, 1) := by decide +kernel
theorem dX1_tasted_54 : decode cX1_tasted 54 = .ok (.invokevirtual 49, 3) := by decide +kernel
theorem dX1_tasted_57 : decode cX1_tasted 57 = .ok (.aload_n 0, 1) := by decide +kernel
theorem dX1_tasted_58 : decode cX1_tasted 58 = .ok (.getfield 15, 3) := by decide +kernel
theorem dX1_tasted_61 : decode cX1_tasted 61 = .ok (.iload_n 1, 1) := by decide +kernel
theorem dX1_tasted_62 : decode cX1_tasted 62 = .ok (.invokevirtual 49, 3) := by decide +kernel
theorem dX1_tasted_65 : decode cX1_tasted 65 = .ok (.iadd, 1) := by decide +kernel
theorem dX1_tasted_66 : decode cX1_tasted 66 = .ok (.iconst 2, 1) := by decide +kernel
theorem dX1_tasted_67 : decode cX1_tasted 67 = .ok (.idiv, 1) := by decide +kernel
theorem dX1_tasted_68 : decode cX1_tasted 68 = .ok (.ireturn, 1) := by decide +kernel
theorem dX1_tasted_69 : decode cX1_tasted 69 = .ok (.iconst 0, 1) := by decide +kernel
theorem dX1_tasted_70 : decode cX1_tasted 70 = .ok (.aload_n 0, 1) := by decide +kernel
theorem dX1_tasted_71 : decode cX1_tasted 71 = .ok (.getfield 19, 3) := by decide +kernel
theorem dX1_tasted_74 : decode cX1_tasted 74 = .ok (.iload_n 1, 1) := by decide +kernel
theorem dX1_tasted_75 : decode cX1_tasted 75 = .ok (.invokevirtual 49, 3) := by decide +kernel
theorem dX1_tasted_78 : decode cX1_tasted 78 = .ok (.bipush 9, 2) := by decide +kernel
theorem dX1_tasted_80 : decode cX1_tasted 80 = .ok (.isub, 1) := by decide +kernel
theorem dX1_tasted_81 : decode cX1_tasted 81 = .ok (.invokestatic 53, 3) := by decide +kernel
theorem dX1_tasted_84 : decode cX1_tasted 84 = .ok (.ireturn, 1) := by decide +kernel
theorem dX1_tasted_85 : decode cX1_tasted 85 = .ok (.aload_n 0, 1) := by decide +kernel
theorem dX1_tasted_86 : decode cX1_tasted 86 = .ok (.getfield 19, 3) := by decide +kernel
theorem dX1_tasted_89 : decode cX1_tasted 89 = .ok (.iload_n 1, 1) := by decide +kernel
theorem dX1_tasted_90 : decode cX1_tasted 90 = .ok (.invokevirtual 49, 3) := by decide +kernel
theorem dX1_tasted_93 : decode cX1_tasted 93 = .ok (.ireturn, 1) := by decide +kernel
theorem dX1_within_0 : decode cX1_within 0 = .ok (.aload_n 0, 1) := by decide +kernel
theorem dX1_within_1 : decode cX1_within 1 = .ok (.getfield 9, 3) := by decide +kernel
theorem dX1_within_4 : decode cX1_within 4 = .ok (.iconst 1, 1) := by decide +kernel
theorem dX1_within_5 : decode cX1_within 5 = .ok (.invokestatic 58, 3) := by decide +kernel
theorem dX1_within_8 : decode cX1_within 8 = .ok (.ifCond .eq 10, 3) := by decide +kernel
theorem dX1_within_11 : decode cX1_within 11 = .ok (.aload_n 0, 1) := by decide +kernel
theorem dX1_within_12 : decode cX1_within 12 = .ok (.getfield 15, 3) := by decide +kernel
theorem dX1_within_15 : decode cX1_within 15 = .ok (.goto 7, 3) := by decide +kernel
theorem dX1_within_18 : decode cX1_within 18 = .ok (.aload_n 0, 1) := by decide +kernel
theorem dX1_within_19 : decode cX1_within 19 = .ok (.getfield 19, 3) := by decide +kernel
theorem dX1_within_22 : decode cX1_within 22 = .ok (.areturn, 1) := by decide +kernel
theorem dX1_passOn_0 : decode cX1_passOn 0 = .ok (.aload_n 0, 1) := by decide +kernel
theorem dX1_passOn_1 : decode cX1_passOn 1 = .ok (.getfield 61, 3) := by decide +kernel
theorem dX1_passOn_4 : decode cX1_passOn 4 = .ok (.ifCond .le 15, 3) := by decide +kernel
theorem dX1_passOn_7 : decode cX1_passOn 7 = .ok (.iload_n 1, 1) := by decide +kernel
theorem dX1_passOn_8 : decode cX1_passOn 8 = .ok (.aload_n 0, 1) := by decide +kernel
theorem dX1_passOn_9 : decode cX1_passOn 9 = .ok (.getfield 34, 3) := by decide +kernel
theorem dX1_passOn_12 : decode cX1_passOn 12 = .ok (.if_icmp .ne 7, 3) := by decide +kernel
theorem dX1_passOn_15 : decode cX1_passOn 15 = .ok (.iconst 1, 1) := by decide +kernel
theorem dX1_passOn_16 : decode cX1_passOn 16 = .ok (.goto 4, 3) := by decide +kernel
theorem dX1_passOn_19 : decode cX1_passOn 19 = .ok (.iconst 0, 1) := by decide +kernel
theorem dX1_passOn_20 : decode cX1_passOn 20 = .ok (.istore 4, 2) := by decide +kernel
theorem dX1_passOn_22 : decode cX1_passOn 22 = .ok (.aload_n 0, 1) := by decide +kernel
theorem dX1_passOn_23 : decode cX1_passOn 23 = .ok (.getfield 61, 3) := by decide +kernel
theorem dX1_passOn_26 : decode cX1_passOn 26 = .ok (.ifCond .le 18, 3) := by decide +kernel
theorem dX1_passOn_29 : decode cX1_passOn 29 = .ok (.iload 4, 2) := by decide +kernel
theorem dX1_passOn_31 : decode cX1_passOn 31 = .ok (.ifCond .ne 13, 3) := by decide +kernel
theorem dX1_passOn_34 : decode cX1_passOn 34 = .ok (.aload_n 0, 1) := by decide +kernel
theorem dX1_passOn_35 : decode cX1_passOn 35 = .ok (.dup, 1) := by decide +kernel
theorem dX1_passOn_36 : decode cX1_passOn 36 = .ok (.getfield 64, 3) := by decide +kernel
theorem dX1_passOn_39 : decode cX1_passOn 39 = .ok (.iconst 1, 1) := by decide +kernel
theorem dX1_passOn_40 : decode cX1_passOn 40 = .ok (.iadd, 1) := by decide +kernel
theorem dX1_passOn_41 : decode cX1_passOn 41 = .ok (.putfield 64, 3) := by decide +kernel
theorem dX1_passOn_44 : decode cX1_passOn 44 = .ok (.aload_n 0, 1) := by decide +kernel
theorem dX1_passOn_45 : decode cX1_passOn 45 = .ok (.iload 4, 2) := by decide +kernel
theorem dX1_passOn_47 : decode cX1_passOn 47 = .ok (.ifCond .eq 12, 3) := by decide +kernel
theorem dX1_passOn_50 : decode cX1_passOn 50 = .ok (.aload_n 0, 1) := by decide +kernel
theorem dX1_passOn_51 : decode cX1_passOn 51 = .ok (.getfield 67, 3) := by decide +kernel
theorem dX1_passOn_54 : decode cX1_passOn 54 = .ok (.iconst 1, 1) := by decide +kernel
theorem dX1_passOn_55 : decode cX1_passOn 55 = .ok (.iadd, 1) := by decide +kernel
theorem dX1_passOn_56 : decode cX1_passOn 56 = .ok (.goto 4, 3) := by decide +kernel
theorem dX1_passOn_59 : decode cX1_passOn 59 = .ok (.iconst 1, 1) := by decide +kernel
theorem dX1_passOn_60 : decode cX1_passOn 60 = .ok (.putfield 67, 3) := by decide +kernel
theorem dX1_passOn_63 : decode cX1_passOn 63 = .ok (.aload_n 0, 1) := by decide +kernel
theorem dX1_passOn_64 : decode cX1_passOn 64 = .ok (.dup, 1) := by decide +kernel
theorem dX1_passOn_65 : decode cX1_passOn 65 = .ok (.getfield 61, 3) := by decide +kernel
theorem dX1_passOn_68 : decode cX1_passOn 68 = .ok (.iconst 1, 1) := by decide +kernel
theorem dX1_passOn_69 : decode cX1_passOn 69 = .ok (.iadd, 1) := by decide +kernel
theorem dX1_passOn_70 : decode cX1_passOn 70 = .ok (.putfield 61, 3) := by decide +kernel
theorem dX1_passOn_73 : decode cX1_passOn 73 = .ok (.aload_n 0, 1) := by decide +kernel
theorem dX1_passOn_74 : decode cX1_passOn 74 = .ok (.iload_n 2, 1) := by decide +kernel
theorem dX1_passOn_75 : decode cX1_passOn 75 = .ok (.putfield 34, 3) := by decide +kernel
theorem dX1_passOn_78 : decode cX1_passOn 78 = .ok (.aload_n 0, 1) := by decide +kernel
theorem dX1_passOn_79 : decode cX1_passOn 79 = .ok (.iload_n 3, 1) := by decide +kernel
theorem dX1_passOn_80 : decode cX1_passOn 80 = .ok (.putfield 70, 3) := by decide +kernel
theorem dX1_passOn_83 : decode cX1_passOn 83 = .ok (.return_, 1) := by decide +kernel
theorem dX1_forgetSales_0 : decode cX1_forgetSales 0 = .ok (.aload_n 0, 1) := by decide +kernel
theorem dX1_forgetSales_1 : decode cX1_forgetSales 1 = .ok (.iconst 0, 1) := by decide +kernel
theorem dX1_forgetSales_2 : decode cX1_forgetSales 2 = .ok (.putfield 61, 3) := by decide +kernel
theorem dX1_forgetSales_5 : decode cX1_forgetSales 5 = .ok (.aload_n 0, 1) := by decide +kernel
theorem dX1_forgetSales_6 : decode cX1_forgetSales 6 = .ok (.iconst (-1), 1) := by decide +kernel
theorem dX1_forgetSales_7 : decode cX1_forgetSales 7 = .ok (.putfield 34, 3) := by decide +kernel
theorem dX1_forgetSales_10 : decode cX1_forgetSales 10 = .ok (.aload_n 0, 1) := by decide +kernel
theorem dX1_forgetSales_11 : decode cX1_forgetSales 11 = .ok (.iconst 0, 1) := by decide +kernel
theorem dX1_forgetSales_12 : decode cX1_forgetSales 12 = .ok (.putfield 64, 3) := by decide +kernel
theorem dX1_forgetSales_15 : decode cX1_forgetSales 15 = .ok (.aload_n 0, 1) := by decide +kernel
theorem dX1_forgetSales_16 : decode cX1_forgetSales 16 = .ok (.iconst 0, 1) := by decide +kernel
theorem dX1_forgetSales_17 : decode cX1_forgetSales 17 = .ok (.putfield 67, 3) := by decide +kernel
theorem dX1_forgetSales_20 : decode cX1_forgetSales 20 = .ok (.aload_n 0, 1) := by decide +kernel
theorem dX1_forgetSales_21 : decode cX1_forgetSales 21 = .ok (.iconst 0, 1) := by decide +kernel
theorem dX1_forgetSales_22 : decode cX1_forgetSales 22 = .ok (.putfield 70, 3) := by decide +kernel
theorem dX1_forgetSales_25 : decode cX1_forgetSales 25 = .ok (.return_, 1) := by decide +kernel
theorem dX2_init_0 : decode cX2_init 0 = .ok (.aload_n 0, 1) := by decide +kernel
theorem dX2_init_1 : decode cX2_init 1 = .ok (.invokespecial 3, 3) := by decide +kernel
theorem dX2_init_4 : decode cX2_init 4 = .ok (.aload_n 0, 1) := by decide +kernel
theorem dX2_init_5 : decode cX2_init 5 = .ok (.bipush 8, 2) := by decide +kernel
theorem dX2_init_7 : decode cX2_init 7 = .ok (.newarray .int, 2) := by decide +kernel
theorem dX2_init_9 : decode cX2_init 9 = .ok (.putfield 9, 3) := by decide +kernel
theorem dX2_init_12 : decode cX2_init 12 = .ok (.aload_n 0, 1) := by decide +kernel
theorem dX2_init_13 : decode cX2_init 13 = .ok (.new 15, 3) := by decide +kernel
theorem dX2_init_16 : decode cX2_init 16 = .ok (.dup, 1) := by decide +kernel
theorem dX2_init_17 : decode cX2_init 17 = .ok (.invokespecial 17, 3) := by decide +kernel
theorem dX2_init_20 : decode cX2_init 20 = .ok (.putfield 18, 3) := by decide +kernel
theorem dX2_init_23 : decode cX2_init 23 = .ok (.aload_n 0, 1) := by decide +kernel
theorem dX2_init_24 : decode cX2_init 24 = .ok (.iconst (-1), 1) := by decide +kernel
theorem dX2_init_25 : decode cX2_init 25 = .ok (.putfield 22, 3) := by decide +kernel
theorem dX2_init_28 : decode cX2_init 28 = .ok (.return_, 1) := by decide +kernel
theorem dX3_init_0 : decode cX3_init 0 = .ok (.aload_n 0, 1) := by decide +kernel
theorem dX3_init_1 : decode cX3_init 1 = .ok (.invokespecial 3, 3) := by decide +kernel
theorem dX3_init_4 : decode cX3_init 4 = .ok (.aload_n 0, 1) := by decide +kernel
theorem dX3_init_5 : decode cX3_init 5 = .ok (.bipush 40, 2) := by decide +kernel
theorem dX3_init_7 : decode cX3_init 7 = .ok (.newarray .int, 2) := by decide +kernel
theorem dX3_init_9 : decode cX3_init 9 = .ok (.putfield 9, 3) := by decide +kernel
theorem dX3_init_12 : decode cX3_init 12 = .ok (.aload_n 0, 1) := by decide +kernel
theorem dX3_init_13 : decode cX3_init 13 = .ok (.bipush 40, 2) := by decide +kernel
theorem dX3_init_15 : decode cX3_init 15 = .ok (.newarray .int, 2) := by decide +kernel
theorem dX3_init_17 : decode cX3_init 17 = .ok (.putfield 15, 3) := by decide +kernel
theorem dX3_init_20 : decode cX3_init 20 = .ok (.aload_n 0, 1) := by decide +kernel
theorem dX3_init_21 : decode cX3_init 21 = .ok (.bipush 40, 2) := by decide +kernel
theorem dX3_init_23 : decode cX3_init 23 = .ok (.newarray .int, 2) := by decide +kernel
theorem dX3_init_25 : decode cX3_init 25 = .ok (.putfield 18, 3) := by decide +kernel
theorem dX3_init_28 : decode cX3_init 28 = .ok (.aload_n 0, 1) := by decide +kernel
theorem dX3_init_29 : decode cX3_init 29 = .ok (.bipush 40, 2) := by decide +kernel
theorem dX3_init_31 : decode cX3_init 31 = .ok (.newarray .int, 2) := by decide +kernel
theorem dX3_init_33 : decode cX3_init 33 = .ok (.putfield 21, 3) := by decide +kernel
theorem dX3_init_36 : decode cX3_init 36 = .ok (.aload_n 0, 1) := by decide +kernel
theorem dX3_init_37 : decode cX3_init 37 = .ok (.bipush 40, 2) := by decide +kernel
theorem dX3_init_39 : decode cX3_init 39 = .ok (.newarray .int, 2) := by decide +kernel
theorem dX3_init_41 : decode cX3_init 41 = .ok (.putfield 24, 3) := by decide +kernel
theorem dX3_init_44 : decode cX3_init 44 = .ok (.return_, 1) := by decide +kernel
theorem dX3_write_0 : decode cX3_write 0 = .ok (.aload_n 0, 1) := by decide +kernel
theorem dX3_write_1 : decode cX3_write 1 = .ok (.getfield 27, 3) := by decide +kernel
theorem dX3_write_4 : decode cX3_write 4 = .ok (.bipush 40, 2) := by decide +kernel
theorem dX3_write_6 : decode cX3_write 6 = .ok (.if_icmp .lt 6, 3) := by decide +kernel
theorem dX3_write_9 : decode cX3_write 9 = .ok (.bipush (-4), 2) := by decide +kernel
theorem dX3_write_11 : decode cX3_write 11 = .ok (.ireturn, 1) := by decide +kernel
theorem dX3_write_12 : decode cX3_write 12 = .ok (.aload_n 0, 1) := by decide +kernel
theorem dX3_write_13 : decode cX3_write 13 = .ok (.getfield 9, 3) := by decide +kernel
theorem dX3_write_16 : decode cX3_write 16 = .ok (.aload_n 0, 1) := by decide +kernel
theorem dX3_write_17 : decode cX3_write 17 = .ok (.getfield 27, 3) := by decide +kernel
theorem dX3_write_20 : decode cX3_write 20 = .ok (.iload_n 1, 1) := by decide +kernel
theorem dX3_write_21 : decode cX3_write 21 = .ok (.iastore, 1) := by decide +kernel
theorem dX3_write_22 : decode cX3_write 22 = .ok (.aload_n 0, 1) := by decide +kernel
theorem dX3_write_23 : decode cX3_write 23 = .ok (.getfield 15, 3) := by decide +kernel
theorem dX3_write_26 : decode cX3_write 26 = .ok (.aload_n 0, 1) := by decide +kernel
theorem dX3_write_27 : decode cX3_write 27 = .ok (.getfield 27, 3) := by decide +kernel
theorem dX3_write_30 : decode cX3_write 30 = .ok (.iload_n 2, 1) := by decide +kernel
theorem dX3_write_31 : decode cX3_write 31 = .ok (.bipush 10, 2) := by decide +kernel
theorem dX3_write_33 : decode cX3_write 33 = .ok (.idiv, 1) := by decide +kernel
theorem dX3_write_34 : decode cX3_write 34 = .ok (.iastore, 1) := by decide +kernel
theorem dX3_write_35 : decode cX3_write 35 = .ok (.aload_n 0, 1) := by decide +kernel
theorem dX3_write_36 : decode cX3_write 36 = .ok (.getfield 18, 3) := by decide +kernel
theorem dX3_write_39 : decode cX3_write 39 = .ok (.aload_n 0, 1) := by decide +kernel
theorem dX3_write_40 : decode cX3_write 40 = .ok (.getfield 27, 3) := by decide +kernel
theorem dX3_write_43 : decode cX3_write 43 = .ok (.iload_n 2, 1) := by decide +kernel
theorem dX3_write_44 : decode cX3_write 44 = .ok (.bipush 10, 2) := by decide +kernel
theorem dX3_write_46 : decode cX3_write 46 = .ok (.irem, 1) := by decide +kernel
theorem dX3_write_47 : decode cX3_write 47 = .ok (.iastore, 1) := by decide +kernel
theorem dX3_write_48 : decode cX3_write 48 = .ok (.aload_n 0, 1) := by decide +kernel
theorem dX3_write_49 : decode cX3_write 49 = .ok (.getfield 21, 3) := by decide +kernel
theorem dX3_write_52 : decode cX3_write 52 = .ok (.aload_n 0, 1) := by decide +kernel
theorem dX3_write_53 : decode cX3_write 53 = .ok (.getfield 27, 3) := by decide +kernel
theorem dX3_write_56 : decode cX3_write 56 = .ok (.iload_n 3, 1) := by decide +kernel
theorem dX3_write_57 : decode cX3_write 57 = .ok (.iastore, 1) := by decide +kernel
theorem dX3_write_58 : decode cX3_write 58 = .ok (.aload_n 0, 1) := by decide +kernel
theorem dX3_write_59 : decode cX3_write 59 = .ok (.getfield 24, 3) := by decide +kernel
theorem dX3_write_62 : decode cX3_write 62 = .ok (.aload_n 0, 1) := by decide +kernel
theorem dX3_write_63 : decode cX3_write 63 = .ok (.getfield 27, 3) := by decide +kernel
theorem dX3_write_66 : decode cX3_write 66 = .ok (.iload 4, 2) := by decide +kernel
theorem dX3_write_68 : decode cX3_write 68 = .ok (.iastore, 1) := by decide +kernel
theorem dX3_write_69 : decode cX3_write 69 = .ok (.aload_n 0, 1) := by decide +kernel
theorem dX3_write_70 : decode cX3_write 70 = .ok (.dup, 1) := by decide +kernel
theorem dX3_write_71 : decode cX3_write 71 = .ok (.getfield 27, 3) := by decide +kernel
theorem dX3_write_74 : decode cX3_write 74 = .ok (.iconst 1, 1) := by decide +kernel
theorem dX3_write_75 : decode cX3_write 75 = .ok (.iadd, 1) := by decide +kernel
theorem dX3_write_76 : decode cX3_write 76 = .ok (.putfield 27, 3) := by decide +kernel
theorem dX3_write_79 : decode cX3_write 79 = .ok (.aload_n 0, 1) := by decide +kernel
theorem dX3_write_80 : decode cX3_write 80 = .ok (.getfield 27, 3) := by decide +kernel
theorem dX3_write_83 : decode cX3_write 83 = .ok (.iconst 1, 1) := by decide +kernel
theorem dX3_write_84 : decode cX3_write 84 = .ok (.isub, 1) := by decide +kernel
theorem dX3_write_85 : decode cX3_write 85 = .ok (.ireturn, 1) := by decide +kernel
theorem dX3_handsOf_0 : decode cX3_handsOf 0 = .ok (.iconst 0, 1) := by decide +kernel
theorem dX3_handsOf_1 : decode cX3_handsOf 1 = .ok (.istore_n 2, 1) := by decide +kernel
theorem dX3_handsOf_2 : decode cX3_handsOf 2 = .ok (.iconst 0, 1) := by decide +kernel
theorem dX3_handsOf_3 : decode cX3_handsOf 3 = .ok (.istore_n 3, 1) := by decide +kernel
theorem dX3_handsOf_4 : decode cX3_handsOf 4 = .ok (.iload_n 3, 1) := by decide +kernel
theorem dX3_handsOf_5 : decode cX3_handsOf 5 = .ok (.aload_n 0, 1) := by decide +kernel
theorem dX3_handsOf_6 : decode cX3_handsOf 6 = .ok (.getfield 27, 3) := by decide +kernel
theorem dX3_handsOf_9 : decode cX3_handsOf 9 = .ok (.if_icmp .ge 39, 3) := by decide +kernel
theorem dX3_handsOf_12 : decode cX3_handsOf 12 = .ok (.aload_n 0, 1) := by decide +kernel
theorem dX3_handsOf_13 : decode cX3_handsOf 13 = .ok (.getfield 9, 3) := by decide +kernel
theorem dX3_handsOf_16 : decode cX3_handsOf 16 = .ok (.iload_n 3, 1) := by decide +kernel
theorem dX3_handsOf_17 : decode cX3_handsOf 17 = .ok (.iaload, 1) := by decide +kernel
theorem dX3_handsOf_18 : decode cX3_handsOf 18 = .ok (.iload_n 1, 1) := by decide +kernel
theorem dX3_handsOf_19 : decode cX3_handsOf 19 = .ok (.if_icmp .ne 23, 3) := by decide +kernel
theorem dX3_handsOf_22 : decode cX3_handsOf 22 = .ok (.iload_n 2, 1) := by decide +kernel
theorem dX3_handsOf_23 : decode cX3_handsOf 23 = .ok (.iconst 1, 1) := by decide +kernel
theorem dX3_handsOf_24 : decode cX3_handsOf 24 = .ok (.aload_n 0, 1) := by decide +kernel
theorem dX3_handsOf_25 : decode cX3_handsOf 25 = .ok (.getfield 15, 3) := by decide +kernel
theorem dX3_handsOf_28 : decode cX3_handsOf 28 = .ok (.iload_n 3, 1) := by decide +kernel
theorem dX3_handsOf_29 : decode cX3_handsOf 29 = .ok (.iaload, 1) := by decide +kernel
theorem dX3_handsOf_30 : decode cX3_handsOf 30 = .ok (.ishl, 1) := by decide +kernel
theorem dX3_handsOf_31 : decode cX3_handsOf 31 = .ok (.iconst 1, 1) := by decide +kernel
theorem dX3_handsOf_32 : decode cX3_handsOf 32 = .ok (.aload_n 0, 1) := by decide +kernel
theorem dX3_handsOf_33 : decode cX3_handsOf 33 = .ok (.getfield 18, 3) := by decide +kernel
theorem dX3_handsOf_36 : decode cX3_handsOf 36 = .ok (.iload_n 3, 1) := by decide +kernel
theorem dX3_handsOf_37 : decode cX3_handsOf 37 = .ok (.iaload, 1) := by decide +kernel
theorem dX3_handsOf_38 : decode cX3_handsOf 38 = .ok (.ishl, 1) := by decide +kernel
theorem dX3_handsOf_39 : decode cX3_handsOf 39 = .ok (.ior, 1) := by decide +kernel
theorem dX3_handsOf_40 : decode cX3_handsOf 40 = .ok (.ior, 1) := by decide +kernel
theorem dX3_handsOf_41 : decode cX3_handsOf 41 = .ok (.istore_n 2, 1) := by decide +kernel
theorem dX3_handsOf_42 : decode cX3_handsOf 42 = .ok (.iinc 3 1, 3) := by decide +kernel
theorem dX3_handsOf_45 : decode cX3_handsOf 45 = .ok (.goto (-41), 3) := by decide +kernel
theorem dX3_handsOf_48 : decode cX3_handsOf 48 = .ok (.iload_n 2, 1) := by decide +kernel
theorem dX3_handsOf_49 : decode cX3_handsOf 49 = .ok (.ireturn, 1) := by decide +kernel
theorem dX3_bottlesOf_0 : decode cX3_bottlesOf 0 = .ok (.iconst 0, 1) := by decide +kernel
theorem dX3_bottlesOf_1 : decode cX3_bottlesOf 1 = .ok (.istore_n 2, 1) := by decide +kernel
theorem dX3_bottlesOf_2 : decode cX3_bottlesOf 2 = .ok (.iconst 0, 1) := by decide +kernel
theorem dX3_bottlesOf_3 : decode cX3_bottlesOf 3 = .ok (.istore_n 3, 1) := by decide +kernel
theorem dX3_bottlesOf_4 : decode cX3_bottlesOf 4 = .ok (.iload_n 3, 1) := by decide +kernel
theorem dX3_bottlesOf_5 : decode cX3_bottlesOf 5 = .ok (.aload_n 0, 1) := by decide +kernel
theorem dX3_bottlesOf_6 : decode cX3_bottlesOf 6 = .ok (.getfield 27, 3) := by decide +kernel
theorem dX3_bottlesOf_9 : decode cX3_bottlesOf 9 = .ok (.if_icmp .ge 42, 3) := by decide +kernel
theorem dX3_bottlesOf_12 : decode cX3_bottlesOf 12 = .ok (.iload_n 1, 1) := by decide +kernel
theorem dX3_bottlesOf_13 : decode cX3_bottlesOf 13 = .ok (.iconst 1, 1) := by decide +kernel
theorem dX3_bottlesOf_14 : decode cX3_bottlesOf 14 = .ok (.aload_n 0, 1) := by decide +kernel
theorem dX3_bottlesOf_15 : decode cX3_bottlesOf 15 = .ok (.getfield 15, 3) := by decide +kernel
theorem dX3_bottlesOf_18 : decode cX3_bottlesOf 18 = .ok (.iload_n 3, 1) := by decide +kernel
theorem dX3_bottlesOf_19 : decode cX3_bottlesOf 19 = .ok (.iaload, 1) := by decide +kernel
theorem dX3_bottlesOf_20 : decode cX3_bottlesOf 20 = .ok (.ishl, 1) := by decide +kernel
theorem dX3_bottlesOf_21 : decode cX3_bottlesOf 21 = .ok (.iconst 1, 1) := by decide +kernel
theorem dX3_bottlesOf_22 : decode cX3_bottlesOf 22 = .ok (.aload_n 0, 1) := by decide +kernel
theorem dX3_bottlesOf_23 : decode cX3_bottlesOf 23 = .ok (.getfield 18, 3) := by decide +kernel
theorem dX3_bottlesOf_26 : decode cX3_bottlesOf 26 = .ok (.iload_n 3, 1) := by decide +kernel
theorem dX3_bottlesOf_27 : decode cX3_bottlesOf 27 = .ok (.iaload, 1) := by decide +kernel
theorem dX3_bottlesOf_28 : decode cX3_bottlesOf 28 = .ok (.ishl, 1) := by decide +kernel
theorem dX3_bottlesOf_29 : decode cX3_bottlesOf 29 = .ok (.ior, 1) := by decide +kernel
theorem dX3_bottlesOf_30 : decode cX3_bottlesOf 30 = .ok (.iand, 1) := by decide +kernel
theorem dX3_bottlesOf_31 : decode cX3_bottlesOf 31 = .ok (.ifCond .eq 14, 3) := by decide +kernel
theorem dX3_bottlesOf_34 : decode cX3_bottlesOf 34 = .ok (.iload_n 2, 1) := by decide +kernel
theorem dX3_bottlesOf_35 : decode cX3_bottlesOf 35 = .ok (.iconst 1, 1) := by decide +kernel
theorem dX3_bottlesOf_36 : decode cX3_bottlesOf 36 = .ok (.aload_n 0, 1) := by decide +kernel
theorem dX3_bottlesOf_37 : decode cX3_bottlesOf 37 = .ok (.getfield 9, 3) := by decide +kernel
theorem dX3_bottlesOf_40 : decode cX3_bottlesOf 40 = .ok (.iload_n 3, 1) := by decide +kernel
theorem dX3_bottlesOf_41 : decode cX3_bottlesOf 41 = .ok (.iaload, 1) := by decide +kernel
theorem dX3_bottlesOf_42 : decode cX3_bottlesOf 42 = .ok (.ishl, 1) := by decide +kernel
theorem dX3_bottlesOf_43 : decode cX3_bottlesOf 43 = .ok (.ior, 1) := by decide +kernel
theorem dX3_bottlesOf_44 : decode cX3_bottlesOf 44 = .ok (.istore_n 2, 1) := by decide +kernel
theorem dX3_bottlesOf_45 : decode cX3_bottlesOf 45 = .ok (.iinc 3 1, 3) := by decide +kernel
theorem dX3_bottlesOf_48 : decode cX3_bottlesOf 48 = .ok (.goto (-44), 3) := by decide +kernel
theorem dX3_bottlesOf_51 : decode cX3_bottlesOf 51 = .ok (.iload_n 2, 1) := by decide +kernel
theorem dX3_bottlesOf_52 : decode cX3_bottlesOf 52 = .ok (.ireturn, 1) := by decide +kernel
theorem dX4_init_0 : decode cX4_init 0 = .ok (.aload_n 0, 1) := by decide +kernel
theorem dX4_init_1 : decode cX4_init 1 = .ok (.invokespecial 3, 3) := by decide +kernel
theorem dX4_init_4 : decode cX4_init 4 = .ok (.aload_n 0, 1) := by decide +kernel
theorem dX4_init_5 : decode cX4_init 5 = .ok (.sipush 160, 3) := by decide +kernel
theorem dX4_init_8 : decode cX4_init 8 = .ok (.newarray .byte, 2) := by decide +kernel
theorem dX4_init_10 : decode cX4_init 10 = .ok (.putfield 9, 3) := by decide +kernel
theorem dX4_init_13 : decode cX4_init 13 = .ok (.aload_n 0, 1) := by decide +kernel
theorem dX4_init_14 : decode cX4_init 14 = .ok (.sipush 160, 3) := by decide +kernel
theorem dX4_init_17 : decode cX4_init 17 = .ok (.newarray .int, 2) := by decide +kernel
theorem dX4_init_19 : decode cX4_init 19 = .ok (.putfield 15, 3) := by decide +kernel
theorem dX4_init_22 : decode cX4_init 22 = .ok (.aload_n 0, 1) := by decide +kernel
theorem dX4_init_23 : decode cX4_init 23 = .ok (.iconst (-1), 1) := by decide +kernel
theorem dX4_init_24 : decode cX4_init 24 = .ok (.putfield 19, 3) := by decide +kernel
theorem dX4_init_27 : decode cX4_init 27 = .ok (.return_, 1) := by decide +kernel
theorem dX4_put_0 : decode cX4_put 0 = .ok (.aload_n 0, 1) := by decide +kernel
theorem dX4_put_1 : decode cX4_put 1 = .ok (.getfield 23, 3) := by decide +kernel
theorem dX4_put_4 : decode cX4_put 4 = .ok (.sipush 160, 3) := by decide +kernel
theorem dX4_put_7 : decode cX4_put 7 = .ok (.if_icmp .ge 24, 3) := by decide +kernel
theorem dX4_put_10 : decode cX4_put 10 = .ok (.aload_n 0, 1) := by decide +kernel
theorem dX4_put_11 : decode cX4_put 11 = .ok (.getfield 9, 3) := by decide +kernel
theorem dX4_put_14 : decode cX4_put 14 = .ok (.aload_n 0, 1) := by decide +kernel
theorem dX4_put_15 : decode cX4_put 15 = .ok (.getfield 23, 3) := by decide +kernel
theorem dX4_put_18 : decode cX4_put 18 = .ok (.iload_n 1, 1) := by decide +kernel
theorem dX4_put_19 : decode cX4_put 19 = .ok (.i2b, 1) := by decide +kernel
theorem dX4_put_20 : decode cX4_put 20 = .ok (.bastore, 1) := by decide +kernel
theorem dX4_put_21 : decode cX4_put 21 = .ok (.aload_n 0, 1) := by decide +kernel
theorem dX4_put_22 : decode cX4_put 22 = .ok (.dup, 1) := by decide +kernel
theorem dX4_put_23 : decode cX4_put 23 = .ok (.getfield 23, 3) := by decide +kernel
theorem dX4_put_26 : decode cX4_put 26 = .ok (.iconst 1, 1) := by decide +kernel
theorem dX4_put_27 : decode cX4_put 27 = .ok (.iadd, 1) := by decide +kernel
theorem dX4_put_28 : decode cX4_put 28 = .ok (.putfield 23, 3) := by decide +kernel
theorem dX4_put_31 : decode cX4_put 31 = .ok (.return_, 1) := by decide +kernel
theorem dX4_read_0 : decode cX4_read 0 = .ok (.aload_n 0, 1) := by decide +kernel
theorem dX4_read_1 : decode cX4_read 1 = .ok (.iconst 0, 1) := by decide +kernel
theorem dX4_read_2 : decode cX4_read 2 = .ok (.putfield 26, 3) := by decide +kernel
theorem dX4_read_5 : decode cX4_read 5 = .ok (.aload_n 0, 1) := by decide +kernel
theorem dX4_read_6 : decode cX4_read 6 = .ok (.iconst 0, 1) := by decide +kernel
theorem dX4_read_7 : decode cX4_read 7 = .ok (.putfield 29, 3) := by decide +kernel
theorem dX4_read_10 : decode cX4_read 10 = .ok (.aload_n 0, 1) := by decide +kernel
theorem dX4_read_11 : decode cX4_read 11 = .ok (.iconst (-1), 1) := by decide +kernel
theorem dX4_read_12 : decode cX4_read 12 = .ok (.putfield 19, 3) := by decide +kernel
theorem dX4_read_15 : decode cX4_read 15 = .ok (.aload_n 0, 1) := by decide +kernel
theorem dX4_read_16 : decode cX4_read 16 = .ok (.invokevirtual 32, 3) := by decide +kernel
theorem dX4_read_19 : decode cX4_read 19 = .ok (.aload_n 0, 1) := by decide +kernel
theorem dX4_read_20 : decode cX4_read 20 = .ok (.bipush 6, 2) := by decide +kernel
theorem dX4_read_22 : decode cX4_read 22 = .ok (.invokevirtual 35, 3) := by decide +kernel
theorem dX4_read_25 : decode cX4_read 25 = .ok (.aload_n 0, 1) := by decide +kernel
theorem dX4_read_26 : decode cX4_read 26 = .ok (.getfield 29, 3) := by decide +kernel
theorem dX4_read_29 : decode cX4_read 29 = .ok (.istore_n 1, 1) := by decide +kernel
theorem dX4_read_30 : decode cX4_read 30 = .ok (.aload_n 0, 1) := by decide +kernel
theorem dX4_read_31 : decode cX4_read 31 = .ok (.bipush 7, 2) := by decide +kernel
theorem dX4_read_33 : decode cX4_read 33 = .ok (.invokevirtual 35, 3) := by decide +kernel
theorem dX4_read_36 : decode cX4_read 36 = .ok (.aload_n 0, 1) := by decide +kernel
theorem dX4_read_37 : decode cX4_read 37 = .ok (.getfield 29, 3) := by decide +kernel
theorem dX4_read_40 : decode cX4_read 40 = .ok (.istore_n 2, 1) := by decide +kernel
theorem dX4_read_41 : decode cX4_read 41 = .ok (.aload_n 0, 1) := by decide +kernel
theorem dX4_read_42 : decode cX4_read 42 = .ok (.bipush 8, 2) := by decide +kernel
theorem dX4_read_44 : decode cX4_read 44 = .ok (.invokevirtual 35, 3) := by decide +kernel
theorem dX4_read_47 : decode cX4_read 47 = .ok (.aload_n 0, 1) := by decide +kernel
theorem dX4_read_48 : decode cX4_read 48 = .ok (.bipush 13, 2) := by decide +kernel
theorem dX4_read_50 : decode cX4_read 50 = .ok (.invokevirtual 39, 3) := by decide +kernel
theorem dX4_read_53 : decode cX4_read 53 = .ok (.aload_n 0, 1) := by decide +kernel
theorem dX4_read_54 : decode cX4_read 54 = .ok (.iconst 0, 1) := by decide +kernel
theorem dX4_read_55 : decode cX4_read 55 = .ok (.putfield 23, 3) := by decide +kernel
theorem dX4_read_58 : decode cX4_read 58 = .ok (.aload_n 0, 1) := by decide +kernel
theorem dX4_read_59 : decode cX4_read 59 = .ok (.getfield 19, 3) := by decide +kernel
theorem dX4_read_62 : decode cX4_read 62 = .ok (.iconst (-1), 1) := by decide +kernel
theorem dX4_read_63 : decode cX4_read 63 = .ok (.if_icmp .ne 26, 3) := by decide +kernel
theorem dX4_read_66 : decode cX4_read 66 = .ok (.new 42, 3) := by decide +kernel
theorem dX4_read_69 : decode cX4_read 69 = .ok (.dup, 1) := by decide +kernel
theorem dX4_read_70 : decode cX4_read 70 = .ok (.aload_n 0, 1) := by decide +kernel
theorem dX4_read_71 : decode cX4_read 71 = .ok (.getfield 15, 3) := by decide +kernel
theorem dX4_read_74 : decode cX4_read 74 = .ok (.aload_n 0, 1) := by decide +kernel
theorem dX4_read_75 : decode cX4_read 75 = .ok (.getfield 29, 3) := by decide +kernel
theorem dX4_read_78 : decode cX4_read 78 = .ok (.invokestatic 44, 3) := by decide +kernel
theorem dX4_read_81 : decode cX4_read 81 = .ok (.iload_n 1, 1) := by decide +kernel
theorem dX4_read_82 : decode cX4_read 82 = .ok (.iload_n 2, 1) := by decide +kernel
theorem dX4_read_83 : decode cX4_read 83 = .ok (.invokespecial 50, 3) := by decide +kernel
theorem dX4_read_86 : decode cX4_read 86 = .ok (.goto 4, 3) := by decide +kernel
theorem dX4_read_89 : decode cX4_read 89 = .ok (.aconst_null, 1) := by decide +kernel
theorem dX4_read_90 : decode cX4_read 90 = .ok (.areturn, 1) := by decide +kernel
theorem dX4_readClause_0 : decode cX4_readClause 0 = .ok (.aload_n 0, 1) := by decide +kernel
theorem dX4_readClause_1 : decode cX4_readClause 1 = .ok (.iload_n 1, 1) := by decide +kernel
theorem dX4_readClause_2 : decode cX4_readClause 2 = .ok (.invokevirtual 39, 3) := by decide +kernel
theorem dX4_readClause_5 : decode cX4_readClause 5 = .ok (.aload_n 0, 1) := by decide +kernel
theorem dX4_readClause_6 : decode cX4_readClause 6 = .ok (.iconst 0, 1) := by decide +kernel
theorem dX4_readClause_7 : decode cX4_readClause 7 = .ok (.invokevirtual 53, 3) := by decide +kernel
theorem dX4_readClause_10 : decode cX4_readClause 10 = .ok (.aload_n 0, 1) := by decide +kernel
theorem dX4_readClause_11 : decode cX4_readClause 11 = .ok (.bipush 59, 2) := by decide +kernel
theorem dX4_readClause_13 : decode cX4_readClause 13 = .ok (.invokevirtual 39, 3) := by decide +kernel
theorem dX4_readClause_16 : decode cX4_readClause 16 = .ok (.return_, 1) := by decide +kernel
theorem dX4_readOr_0 : decode cX4_readOr 0 = .ok (.aload_n 0, 1) := by decide +kernel
theorem dX4_readOr_1 : decode cX4_readOr 1 = .ok (.iload_n 1, 1) := by decide +kernel
theorem dX4_readOr_2 : decode cX4_readOr 2 = .ok (.invokevirtual 56, 3) := by decide +kernel
theorem dX4_readOr_5 : decode cX4_readOr 5 = .ok (.iconst 0, 1) := by decide +kernel
theorem dX4_readOr_6 : decode cX4_readOr 6 = .ok (.istore_n 2, 1) := by decide +kernel
theorem dX4_readOr_7 : decode cX4_readOr 7 = .ok (.iload_n 2, 1) := by decide +kernel
theorem dX4_readOr_8 : decode cX4_readOr 8 = .ok (.sipush 160, 3) := by decide +kernel
theorem dX4_readOr_11 : decode cX4_readOr 11 = .ok (.if_icmp .ge 33, 3) := by decide +kernel
theorem dX4_readOr_14 : decode cX4_readOr 14 = .ok (.aload_n 0, 1) := by decide +kernel
theorem dX4_readOr_15 : decode cX4_readOr 15 = .ok (.getfield 59, 3) := by decide +kernel
theorem dX4_readOr_18 : decode cX4_readOr 18 = .ok (.bipush 9, 2) := by decide +kernel
theorem dX4_readOr_20 : decode cX4_readOr 20 = .ok (.if_icmp .ne 24, 3) := by decide +kernel
theorem dX4_readOr_23 : decode cX4_readOr 23 = .ok (.aload_n 0, 1) := by decide +kernel
theorem dX4_readOr_24 : decode cX4_readOr 24 = .ok (.invokevirtual 32, 3) := by decide +kernel
theorem dX4_readOr_27 : decode cX4_readOr 27 = .ok (.aload_n 0, 1) := by decide +kernel
theorem dX4_readOr_28 : decode cX4_readOr 28 = .ok (.iload_n 1, 1) := by decide +kernel
theorem dX4_readOr_29 : decode cX4_readOr 29 = .ok (.invokevirtual 56, 3) := by decide +kernel
theorem dX4_readOr_32 : decode cX4_readOr 32 = .ok (.aload_n 0, 1) := by decide +kernel
theorem dX4_readOr_33 : decode cX4_readOr 33 = .ok (.bipush (-9), 2) := by decide +kernel
theorem dX4_readOr_35 : decode cX4_readOr 35 = .ok (.invokevirtual 62, 3) := by decide +kernel
theorem dX4_readOr_38 : decode cX4_readOr 38 = .ok (.iinc 2 1, 3) := by decide +kernel
theorem dX4_readOr_41 : decode cX4_readOr 41 = .ok (.goto (-34), 3) := by decide +kernel
theorem dX4_readOr_44 : decode cX4_readOr 44 = .ok (.return_, 1) := by decide +kernel
theorem dX4_readAnd_0 : decode cX4_readAnd 0 = .ok (.aload_n 0, 1) := by decide +kernel
theorem dX4_readAnd_1 : decode cX4_readAnd 1 = .ok (.iload_n 1, 1) := by decide +kernel
theorem dX4_readAnd_2 : decode cX4_readAnd 2 = .ok (.invokevirtual 65, 3) := by decide +kernel
theorem dX4_readAnd_5 : decode cX4_readAnd 5 = .ok (.iconst 0, 1) := by decide +kernel
theorem dX4_readAnd_6 : decode cX4_readAnd 6 = .ok (.istore_n 2, 1) := by decide +kernel
theorem dX4_readAnd_7 : decode cX4_readAnd 7 = .ok (.iload_n 2, 1) := by decide +kernel
theorem dX4_readAnd_8 : decode cX4_readAnd 8 = .ok (.sipush 160, 3) := by decide +kernel
theorem dX4_readAnd_11 : decode cX4_readAnd 11 = .ok (.if_icmp .ge 33, 3) := by decide +kernel
theorem dX4_readAnd_14 : decode cX4_readAnd 14 = .ok (.aload_n 0, 1) := by decide +kernel
theorem dX4_readAnd_15 : decode cX4_readAnd 15 = .ok (.getfield 59, 3) := by decide +kernel
theorem dX4_readAnd_18 : decode cX4_readAnd 18 = .ok (.bipush 10, 2) := by decide +kernel
theorem dX4_readAnd_20 : decode cX4_readAnd 20 = .ok (.if_icmp .ne 24, 3) := by decide +kernel
theorem dX4_readAnd_23 : decode cX4_readAnd 23 = .ok (.aload_n 0, 1) := by decide +kernel
theorem dX4_readAnd_24 : decode cX4_readAnd 24 = .ok (.invokevirtual 32, 3) := by decide +kernel
theorem dX4_readAnd_27 : decode cX4_readAnd 27 = .ok (.aload_n 0, 1) := by decide +kernel
theorem dX4_readAnd_28 : decode cX4_readAnd 28 = .ok (.iload_n 1, 1) := by decide +kernel
theorem dX4_readAnd_29 : decode cX4_readAnd 29 = .ok (.invokevirtual 65, 3) := by decide +kernel
theorem dX4_readAnd_32 : decode cX4_readAnd 32 = .ok (.aload_n 0, 1) := by decide +kernel
theorem dX4_readAnd_33 : decode cX4_readAnd 33 = .ok (.bipush (-10), 2) := by decide +kernel
theorem dX4_readAnd_35 : decode cX4_readAnd 35 = .ok (.invokevirtual 62, 3) := by decide +kernel
theorem dX4_readAnd_38 : decode cX4_readAnd 38 = .ok (.iinc 2 1, 3) := by decide +kernel
theorem dX4_readAnd_41 : decode cX4_readAnd 41 = .ok (.goto (-34), 3) := by decide +kernel
theorem dX4_readAnd_44 : decode cX4_readAnd 44 = .ok (.return_, 1) := by decide +kernel
theorem dX4_readNot_0 : decode cX4_readNot 0 = .ok (.aload_n 0, 1) := by decide +kernel
theorem dX4_readNot_1 : decode cX4_readNot 1 = .ok (.getfield 59, 3) := by decide +kernel
theorem dX4_readNot_4 : decode cX4_readNot 4 = .ok (.bipush 11, 2) := by decide +kernel
theorem dX4_readNot_6 : decode cX4_readNot 6 = .ok (.if_icmp .eq 11, 3) := by decide +kernel
theorem dX4_readNot_9 : decode cX4_readNot 9 = .ok (.aload_n 0, 1) := by decide +kernel
theorem dX4_readNot_10 : decode cX4_readNot 10 = .ok (.iload_n 1, 1) := by decide +kernel
theorem dX4_readNot_11 : decode cX4_readNot 11 = .ok (.invokevirtual 68, 3) := by decide +kernel
theorem dX4_readNot_14 : decode cX4_readNot 14 = .ok (.goto 32, 3) := by decide +kernel
theorem dX4_readNot_17 : decode cX4_readNot 17 = .ok (.iload_n 1, 1) := by decide +kernel
theorem dX4_readNot_18 : decode cX4_readNot 18 = .ok (.iconst 5, 1) := by decide +kernel
theorem dX4_readNot_19 : decode cX4_readNot 19 = .ok (.if_icmp .ge 23, 3) := by decide +kernel
theorem dX4_readNot_22 : decode cX4_readNot 22 = .ok (.aload_n 0, 1) := by decide +kernel
theorem dX4_readNot_23 : decode cX4_readNot 23 = .ok (.invokevirtual 32, 3) := by decide +kernel
theorem dX4_readNot_26 : decode cX4_readNot 26 = .ok (.aload_n 0, 1) := by decide +kernel
theorem dX4_readNot_27 : decode cX4_readNot 27 = .ok (.iload_n 1, 1) := by decide +kernel
theorem dX4_readNot_28 : decode cX4_readNot 28 = .ok (.iconst 1, 1) := by decide +kernel
theorem dX4_readNot_29 : decode cX4_readNot 29 = .ok (.iadd, 1) := by decide +kernel
theorem dX4_readNot_30 : decode cX4_readNot 30 = .ok (.invokevirtual 65, 3) := by decide +kernel
theorem dX4_readNot_33 : decode cX4_readNot 33 = .ok (.aload_n 0, 1) := by decide +kernel
theorem dX4_readNot_34 : decode cX4_readNot 34 = .ok (.bipush (-11), 2) := by decide +kernel
theorem dX4_readNot_36 : decode cX4_readNot 36 = .ok (.invokevirtual 62, 3) := by decide +kernel
theorem dX4_readNot_39 : decode cX4_readNot 39 = .ok (.goto 7, 3) := by decide +kernel
theorem dX4_readNot_42 : decode cX4_readNot 42 = .ok (.aload_n 0, 1) := by decide +kernel
theorem dX4_readNot_43 : decode cX4_readNot 43 = .ok (.invokevirtual 71, 3) := by decide +kernel
theorem dX4_readNot_46 : decode cX4_readNot 46 = .ok (.return_, 1) := by decide +kernel
theorem dX4_readCompared_0 : decode cX4_readCompared 0 = .ok (.aload_n 0, 1) := by decide +kernel
theorem dX4_readCompared_1 : decode cX4_readCompared 1 = .ok (.iload_n 1, 1) := by decide +kernel
theorem dX4_readCompared_2 : decode cX4_readCompared 2 = .ok (.invokevirtual 74, 3) := by decide +kernel
theorem dX4_readCompared_5 : decode cX4_readCompared 5 = .ok (.aload_n 0, 1) := by decide +kernel
theorem dX4_readCompared_6 : decode cX4_readCompared 6 = .ok (.getfield 59, 3) := by decide +kernel
theorem dX4_readCompared_9 : decode cX4_readCompared 9 = .ok (.bipush 60, 2) := by decide +kernel
theorem dX4_readCompared_11 : decode cX4_readCompared 11 = .ok (.if_icmp .eq 12, 3) := by decide +kernel
theorem dX4_readCompared_14 : decode cX4_readCompared 14 = .ok (.aload_n 0, 1) := by decide +kernel
theorem dX4_readCompared_15 : decode cX4_readCompared 15 = .ok (.getfield 59, 3) := by decide +kernel
theorem dX4_readCompared_18 : decode cX4_readCompared 18 = .ok (.bipush 61, 2) := by decide +kernel
theorem dX4_readCompared_20 : decode cX4_readCompared 20 = .ok (.if_icmp .ne 23, 3) := by decide +kernel
theorem dX4_readCompared_23 : decode cX4_readCompared 23 = .ok (.aload_n 0, 1) := by decide +kernel
theorem dX4_readCompared_24 : decode cX4_readCompared 24 = .ok (.getfield 59, 3) := by decide +kernel
theorem dX4_readCompared_27 : decode cX4_readCompared 27 = .ok (.istore_n 2, 1) := by decide +kernel
theorem dX4_readCompared_28 : decode cX4_readCompared 28 = .ok (.aload_n 0, 1) := by decide +kernel
theorem dX4_readCompared_29 : decode cX4_readCompared 29 = .ok (.invokevirtual 32, 3) := by decide +kernel
theorem dX4_readCompared_32 : decode cX4_readCompared 32 = .ok (.aload_n 0, 1) := by decide +kernel
theorem dX4_readCompared_33 : decode cX4_readCompared 33 = .ok (.iload_n 1, 1) := by decide +kernel
theorem dX4_readCompared_34 : decode cX4_readCompared 34 = .ok (.invokevirtual 74, 3) := by decide +kernel
theorem dX4_readCompared_37 : decode cX4_readCompared 37 = .ok (.aload_n 0, 1) := by decide +kernel
theorem dX4_readCompared_38 : decode cX4_readCompared 38 = .ok (.iload_n 2, 1) := by decide +kernel
theorem dX4_readCompared_39 : decode cX4_readCompared 39 = .ok (.ineg, 1) := by decide +kernel
theorem dX4_readCompared_40 : decode cX4_readCompared 40 = .ok (.invokevirtual 62, 3) := by decide +kernel
theorem dX4_readCompared_43 : decode cX4_readCompared 43 = .ok (.return_, 1) := by decide +kernel
theorem dX4_readSum_0 : decode cX4_readSum 0 = .ok (.aload_n 0, 1) := by decide +kernel
theorem dX4_readSum_1 : decode cX4_readSum 1 = .ok (.iload_n 1, 1) := by decide +kernel
theorem dX4_readSum_2 : decode cX4_readSum 2 = .ok (.invokevirtual 77, 3) := by decide +kernel
theorem dX4_readSum_5 : decode cX4_readSum 5 = .ok (.iconst 0, 1) := by decide +kernel
theorem dX4_readSum_6 : decode cX4_readSum 6 = .ok (.istore_n 2, 1) := by decide +kernel
theorem dX4_readSum_7 : decode cX4_readSum 7 = .ok (.iload_n 2, 1) := by decide +kernel
theorem dX4_readSum_8 : decode cX4_readSum 8 = .ok (.sipush 160, 3) := by decide +kernel
theorem dX4_readSum_11 : decode cX4_readSum 11 = .ok (.if_icmp .ge 47, 3) := by decide +kernel
theorem dX4_readSum_14 : decode cX4_readSum 14 = .ok (.aload_n 0, 1) := by decide +kernel
theorem dX4_readSum_15 : decode cX4_readSum 15 = .ok (.getfield 59, 3) := by decide +kernel
theorem dX4_readSum_18 : decode cX4_readSum 18 = .ok (.bipush 43, 2) := by decide +kernel
theorem dX4_readSum_20 : decode cX4_readSum 20 = .ok (.if_icmp .eq 12, 3) := by decide +kernel
theorem dX4_readSum_23 : decode cX4_readSum 23 = .ok (.aload_n 0, 1) := by decide +kernel
theorem dX4_readSum_24 : decode cX4_readSum 24 = .ok (.getfield 59, 3) := by decide +kernel
theorem dX4_readSum_27 : decode cX4_readSum 27 = .ok (.bipush 45, 2) := by decide +kernel
theorem dX4_readSum_29 : decode cX4_readSum 29 = .ok (.if_icmp .ne 29, 3) := by decide +kernel
theorem dX4_readSum_32 : decode cX4_readSum 32 = .ok (.aload_n 0, 1) := by decide +kernel
theorem dX4_readSum_33 : decode cX4_readSum 33 = .ok (.getfield 59, 3) := by decide +kernel
theorem dX4_readSum_36 : decode cX4_readSum 36 = .ok (.istore_n 3, 1) := by decide +kernel
theorem dX4_readSum_37 : decode cX4_readSum 37 = .ok (.aload_n 0, 1) := by decide +kernel
theorem dX4_readSum_38 : decode cX4_readSum 38 = .ok (.invokevirtual 32, 3) := by decide +kernel
theorem dX4_readSum_41 : decode cX4_readSum 41 = .ok (.aload_n 0, 1) := by decide +kernel
theorem dX4_readSum_42 : decode cX4_readSum 42 = .ok (.iload_n 1, 1) := by decide +kernel
theorem dX4_readSum_43 : decode cX4_readSum 43 = .ok (.invokevirtual 77, 3) := by decide +kernel
theorem dX4_readSum_46 : decode cX4_readSum 46 = .ok (.aload_n 0, 1) := by decide +kernel
theorem dX4_readSum_47 : decode cX4_readSum 47 = .ok (.iload_n 3, 1) := by decide +kernel
theorem dX4_readSum_48 : decode cX4_readSum 48 = .ok (.ineg, 1) := by decide +kernel
theorem dX4_readSum_49 : decode cX4_readSum 49 = .ok (.invokevirtual 62, 3) := by decide +kernel
theorem dX4_readSum_52 : decode cX4_readSum 52 = .ok (.iinc 2 1, 3) := by decide +kernel
theorem dX4_readSum_55 : decode cX4_readSum 55 = .ok (.goto (-48), 3) := by decide +kernel
theorem dX4_readSum_58 : decode cX4_readSum 58 = .ok (.return_, 1) := by decide +kernel
theorem dX4_readTerm_0 : decode cX4_readTerm 0 = .ok (.aload_n 0, 1) := by decide +kernel
theorem dX4_readTerm_1 : decode cX4_readTerm 1 = .ok (.iload_n 1, 1) := by decide +kernel
theorem dX4_readTerm_2 : decode cX4_readTerm 2 = .ok (.invokevirtual 80, 3) := by decide +kernel
theorem dX4_readTerm_5 : decode cX4_readTerm 5 = .ok (.iconst 0, 1) := by decide +kernel
theorem dX4_readTerm_6 : decode cX4_readTerm 6 = .ok (.istore_n 2, 1) := by decide +kernel
theorem dX4_readTerm_7 : decode cX4_readTerm 7 = .ok (.iload_n 2, 1) := by decide +kernel
theorem dX4_readTerm_8 : decode cX4_readTerm 8 = .ok (.sipush 160, 3) := by decide +kernel
theorem dX4_readTerm_11 : decode cX4_readTerm 11 = .ok (.if_icmp .ge 33, 3) := by decide +kernel
theorem dX4_readTerm_14 : decode cX4_readTerm 14 = .ok (.aload_n 0, 1) := by decide +kernel
theorem dX4_readTerm_15 : decode cX4_readTerm 15 = .ok (.getfield 59, 3) := by decide +kernel
theorem dX4_readTerm_18 : decode cX4_readTerm 18 = .ok (.bipush 42, 2) := by decide +kernel
theorem dX4_readTerm_20 : decode cX4_readTerm 20 = .ok (.if_icmp .ne 24, 3) := by decide +kernel
theorem dX4_readTerm_23 : decode cX4_readTerm 23 = .ok (.aload_n 0, 1) := by decide +kernel
theorem dX4_readTerm_24 : decode cX4_readTerm 24 = .ok (.invokevirtual 32, 3) := by decide +kernel
theorem dX4_readTerm_27 : decode cX4_readTerm 27 = .ok (.aload_n 0, 1) := by decide +kernel
theorem dX4_readTerm_28 : decode cX4_readTerm 28 = .ok (.iload_n 1, 1) := by decide +kernel
theorem dX4_readTerm_29 : decode cX4_readTerm 29 = .ok (.invokevirtual 80, 3) := by decide +kernel
theorem dX4_readTerm_32 : decode cX4_readTerm 32 = .ok (.aload_n 0, 1) := by decide +kernel
theorem dX4_readTerm_33 : decode cX4_readTerm 33 = .ok (.bipush (-42), 2) := by decide +kernel
theorem dX4_readTerm_35 : decode cX4_readTerm 35 = .ok (.invokevirtual 62, 3) := by decide +kernel
theorem dX4_readTerm_38 : decode cX4_readTerm 38 = .ok (.iinc 2 1, 3) := by decide +kernel
theorem dX4_readTerm_41 : decode cX4_readTerm 41 = .ok (.goto (-34), 3) := by decide +kernel
theorem dX4_readTerm_44 : decode cX4_readTerm 44 = .ok (.return_, 1) := by decide +kernel
theorem dX4_readOne_0 : decode cX4_readOne 0 = .ok (.aload_n 0, 1) := by decide +kernel
theorem dX4_readOne_1 : decode cX4_readOne 1 = .ok (.getfield 59, 3) := by decide +kernel
theorem dX4_readOne_4 : decode cX4_readOne 4 = .ok (.bipush 12, 2) := by decide +kernel
theorem dX4_readOne_6 : decode cX4_readOne 6 = .ok (.if_icmp .ne 18, 3) := by decide +kernel
theorem dX4_readOne_9 : decode cX4_readOne 9 = .ok (.aload_n 0, 1) := by decide +kernel
theorem dX4_readOne_10 : decode cX4_readOne 10 = .ok (.aload_n 0, 1) := by decide +kernel
theorem dX4_readOne_11 : decode cX4_readOne 11 = .ok (.getfield 83, 3) := by decide +kernel
theorem dX4_readOne_14 : decode cX4_readOne 14 = .ok (.invokevirtual 62, 3) := by decide +kernel
theorem dX4_readOne_17 : decode cX4_readOne 17 = .ok (.aload_n 0, 1) := by decide +kernel
theorem dX4_readOne_18 : decode cX4_readOne 18 = .ok (.invokevirtual 32, 3) := by decide +kernel
theorem dX4_readOne_21 : decode cX4_readOne 21 = .ok (.goto 107, 3) := by decide +kernel
theorem dX4_readOne_24 : decode cX4_readOne 24 = .ok (.aload_n 0, 1) := by decide +kernel
theorem dX4_readOne_25 : decode cX4_readOne 25 = .ok (.getfield 59, 3) := by decide +kernel
theorem dX4_readOne_28 : decode cX4_readOne 28 = .ok (.ifCond .lt 28, 3) := by decide +kernel
theorem dX4_readOne_31 : decode cX4_readOne 31 = .ok (.aload_n 0, 1) := by decide +kernel
theorem dX4_readOne_32 : decode cX4_readOne 32 = .ok (.getfield 59, 3) := by decide +kernel
theorem dX4_readOne_35 : decode cX4_readOne 35 = .ok (.iconst 5, 1) := by decide +kernel
theorem dX4_readOne_36 : decode cX4_readOne 36 = .ok (.if_icmp .gt 20, 3) := by decide +kernel
theorem dX4_readOne_39 : decode cX4_readOne 39 = .ok (.aload_n 0, 1) := by decide +kernel
theorem dX4_readOne_40 : decode cX4_readOne 40 = .ok (.iconst (-1), 1) := by decide +kernel
theorem dX4_readOne_41 : decode cX4_readOne 41 = .ok (.aload_n 0, 1) := by decide +kernel
theorem dX4_readOne_42 : decode cX4_readOne 42 = .ok (.getfield 59, 3) := by decide +kernel
theorem dX4_readOne_45 : decode cX4_readOne 45 = .ok (.isub, 1) := by decide +kernel
theorem dX4_readOne_46 : decode cX4_readOne 46 = .ok (.invokevirtual 62, 3) := by decide +kernel
theorem dX4_readOne_49 : decode cX4_readOne 49 = .ok (.aload_n 0, 1) := by decide +kernel
theorem dX4_readOne_50 : decode cX4_readOne 50 = .ok (.invokevirtual 32, 3) := by decide +kernel
theorem dX4_readOne_53 : decode cX4_readOne 53 = .ok (.goto 75, 3) := by decide +kernel
theorem dX4_readOne_56 : decode cX4_readOne 56 = .ok (.aload_n 0, 1) := by decide +kernel
theorem dX4_readOne_57 : decode cX4_readOne 57 = .ok (.getfield 59, 3) := by decide +kernel
theorem dX4_readOne_60 : decode cX4_readOne 60 = .ok (.bipush 45, 2) := by decide +kernel
theorem dX4_readOne_62 : decode cX4_readOne 62 = .ok (.if_icmp .ne 28, 3) := by decide +kernel
theorem dX4_readOne_65 : decode cX4_readOne 65 = .ok (.iload_n 1, 1) := by decide +kernel
theorem dX4_readOne_66 : decode cX4_readOne 66 = .ok (.iconst 5, 1) := by decide +kernel
theorem dX4_readOne_67 : decode cX4_readOne 67 = .ok (.if_icmp .ge 23, 3) := by decide +kernel
theorem dX4_readOne_70 : decode cX4_readOne 70 = .ok (.aload_n 0, 1) := by decide +kernel
theorem dX4_readOne_71 : decode cX4_readOne 71 = .ok (.invokevirtual 32, 3) := by decide +kernel
theorem dX4_readOne_74 : decode cX4_readOne 74 = .ok (.aload_n 0, 1) := by decide +kernel
theorem dX4_readOne_75 : decode cX4_readOne 75 = .ok (.iload_n 1, 1) := by decide +kernel
theorem dX4_readOne_76 : decode cX4_readOne 76 = .ok (.iconst 1, 1) := by decide +kernel
theorem dX4_readOne_77 : decode cX4_readOne 77 = .ok (.iadd, 1) := by decide +kernel
theorem dX4_readOne_78 : decode cX4_readOne 78 = .ok (.invokevirtual 80, 3) := by decide +kernel
theorem dX4_readOne_81 : decode cX4_readOne 81 = .ok (.aload_n 0, 1) := by decide +kernel
theorem dX4_readOne_82 : decode cX4_readOne 82 = .ok (.bipush (-100), 2) := by decide +kernel
theorem dX4_readOne_84 : decode cX4_readOne 84 = .ok (.invokevirtual 62, 3) := by decide +kernel
theorem dX4_readOne_87 : decode cX4_readOne 87 = .ok (.goto 41, 3) := by decide +kernel
theorem dX4_readOne_90 : decode cX4_readOne 90 = .ok (.aload_n 0, 1) := by decide +kernel
theorem dX4_readOne_91 : decode cX4_readOne 91 = .ok (.getfield 59, 3) := by decide +kernel
theorem dX4_readOne_94 : decode cX4_readOne 94 = .ok (.bipush 40, 2) := by decide +kernel
theorem dX4_readOne_96 : decode cX4_readOne 96 = .ok (.if_icmp .ne 28, 3) := by decide +kernel
theorem dX4_readOne_99 : decode cX4_readOne 99 = .ok (.iload_n 1, 1) := by decide +kernel
theorem dX4_readOne_100 : decode cX4_readOne 100 = .ok (.iconst 5, 1) := by decide +kernel
theorem dX4_readOne_101 : decode cX4_readOne 101 = .ok (.if_icmp .ge 23, 3) := by decide +kernel
theorem dX4_readOne_104 : decode cX4_readOne 104 = .ok (.aload_n 0, 1) := by decide +kernel
theorem dX4_readOne_105 : decode cX4_readOne 105 = .ok (.invokevirtual 32, 3) := by decide +kernel
theorem dX4_readOne_108 : decode cX4_readOne 108 = .ok (.aload_n 0, 1) := by decide +kernel
theorem dX4_readOne_109 : decode cX4_readOne 109 = .ok (.iload_n 1, 1) := by decide +kernel
theorem dX4_readOne_110 : decode cX4_readOne 110 = .ok (.iconst 1, 1) := by decide +kernel
theorem dX4_readOne_111 : decode cX4_readOne 111 = .ok (.iadd, 1) := by decide +kernel
theorem dX4_readOne_112 : decode cX4_readOne 112 = .ok (.invokevirtual 53, 3) := by decide +kernel
theorem dX4_readOne_115 : decode cX4_readOne 115 = .ok (.aload_n 0, 1) := by decide +kernel
theorem dX4_readOne_116 : decode cX4_readOne 116 = .ok (.bipush 41, 2) := by decide +kernel
theorem dX4_readOne_118 : decode cX4_readOne 118 = .ok (.invokevirtual 39, 3) := by decide +kernel
theorem dX4_readOne_121 : decode cX4_readOne 121 = .ok (.goto 7, 3) := by decide +kernel
theorem dX4_readOne_124 : decode cX4_readOne 124 = .ok (.aload_n 0, 1) := by decide +kernel
theorem dX4_readOne_125 : decode cX4_readOne 125 = .ok (.invokevirtual 71, 3) := by decide +kernel
theorem dX4_readOne_128 : decode cX4_readOne 128 = .ok (.return_, 1) := by decide +kernel
theorem dX4_take_0 : decode cX4_take 0 = .ok (.aload_n 0, 1) := by decide +kernel
theorem dX4_take_1 : decode cX4_take 1 = .ok (.getfield 59, 3) := by decide +kernel
theorem dX4_take_4 : decode cX4_take 4 = .ok (.iload_n 1, 1) := by decide +kernel
theorem dX4_take_5 : decode cX4_take 5 = .ok (.if_icmp .ne 10, 3) := by decide +kernel
theorem dX4_take_8 : decode cX4_take 8 = .ok (.aload_n 0, 1) := by decide +kernel
theorem dX4_take_9 : decode cX4_take 9 = .ok (.invokevirtual 32, 3) := by decide +kernel
theorem dX4_take_12 : decode cX4_take 12 = .ok (.goto 7, 3) := by decide +kernel
theorem dX4_take_15 : decode cX4_take 15 = .ok (.aload_n 0, 1) := by decide +kernel
theorem dX4_take_16 : decode cX4_take 16 = .ok (.invokevirtual 71, 3) := by decide +kernel
theorem dX4_take_19 : decode cX4_take 19 = .ok (.return_, 1) := by decide +kernel
theorem dX4_fail_0 : decode cX4_fail 0 = .ok (.aload_n 0, 1) := by decide +kernel
theorem dX4_fail_1 : decode cX4_fail 1 = .ok (.getfield 19, 3) := by decide +kernel
theorem dX4_fail_4 : decode cX4_fail 4 = .ok (.iconst (-1), 1) := by decide +kernel
theorem dX4_fail_5 : decode cX4_fail 5 = .ok (.if_icmp .ne 11, 3) := by decide +kernel
theorem dX4_fail_8 : decode cX4_fail 8 = .ok (.aload_n 0, 1) := by decide +kernel
theorem dX4_fail_9 : decode cX4_fail 9 = .ok (.aload_n 0, 1) := by decide +kernel
theorem dX4_fail_10 : decode cX4_fail 10 = .ok (.getfield 86, 3) := by decide +kernel
theorem dX4_fail_13 : decode cX4_fail 13 = .ok (.putfield 19, 3) := by decide +kernel
theorem dX4_fail_16 : decode cX4_fail 16 = .ok (.aload_n 0, 1) := by decide +kernel
theorem dX4_fail_17 : decode cX4_fail 17 = .ok (.bipush 14, 2) := by decide +kernel
theorem dX4_fail_19 : decode cX4_fail 19 = .ok (.putfield 59, 3) := by decide +kernel
theorem dX4_fail_22 : decode cX4_fail 22 = .ok (.return_, 1) := by decide +kernel
theorem dX4_emit_0 : decode cX4_emit 0 = .ok (.aload_n 0, 1) := by decide +kernel
theorem dX4_emit_1 : decode cX4_emit 1 = .ok (.getfield 29, 3) := by decide +kernel
theorem dX4_emit_4 : decode cX4_emit 4 = .ok (.sipush 160, 3) := by decide +kernel
theorem dX4_emit_7 : decode cX4_emit 7 = .ok (.if_icmp .ge 23, 3) := by decide +kernel
theorem dX4_emit_10 : decode cX4_emit 10 = .ok (.aload_n 0, 1) := by decide +kernel
theorem dX4_emit_11 : decode cX4_emit 11 = .ok (.getfield 15, 3) := by decide +kernel
theorem dX4_emit_14 : decode cX4_emit 14 = .ok (.aload_n 0, 1) := by decide +kernel
theorem dX4_emit_15 : decode cX4_emit 15 = .ok (.getfield 29, 3) := by decide +kernel
theorem dX4_emit_18 : decode cX4_emit 18 = .ok (.iload_n 1, 1) := by decide +kernel
theorem dX4_emit_19 : decode cX4_emit 19 = .ok (.iastore, 1) := by decide +kernel
theorem dX4_emit_20 : decode cX4_emit 20 = .ok (.aload_n 0, 1) := by decide +kernel
theorem dX4_emit_21 : decode cX4_emit 21 = .ok (.dup, 1) := by decide +kernel
theorem dX4_emit_22 : decode cX4_emit 22 = .ok (.getfield 29, 3) := by decide +kernel
theorem dX4_emit_25 : decode cX4_emit 25 = .ok (.iconst 1, 1) := by decide +kernel
theorem dX4_emit_26 : decode cX4_emit 26 = .ok (.iadd, 1) := by decide +kernel
theorem dX4_emit_27 : decode cX4_emit 27 = .ok (.putfield 29, 3) := by decide +kernel
theorem dX4_emit_30 : decode cX4_emit 30 = .ok (.return_, 1) := by decide +kernel
theorem dX4_next_0 : decode cX4_next 0 = .ok (.aload_n 0, 1) := by decide +kernel
theorem dX4_next_1 : decode cX4_next 1 = .ok (.aload_n 0, 1) := by decide +kernel
theorem dX4_next_2 : decode cX4_next 2 = .ok (.bipush 32, 2) := by decide +kernel
theorem dX4_next_4 : decode cX4_next 4 = .ok (.aload_n 0, 1) := by decide +kernel
theorem dX4_next_5 : decode cX4_next 5 = .ok (.getfield 26, 3) := by decide +kernel
theorem dX4_next_8 : decode cX4_next 8 = .ok (.invokevirtual 89, 3) := by decide +kernel
theorem dX4_next_11 : decode cX4_next 11 = .ok (.putfield 26, 3) := by decide +kernel
theorem dX4_next_14 : decode cX4_next 14 = .ok (.aload_n 0, 1) := by decide +kernel
theorem dX4_next_15 : decode cX4_next 15 = .ok (.aload_n 0, 1) := by decide +kernel
theorem dX4_next_16 : decode cX4_next 16 = .ok (.getfield 26, 3) := by decide +kernel
theorem dX4_next_19 : decode cX4_next 19 = .ok (.putfield 86, 3) := by decide +kernel
theorem dX4_next_22 : decode cX4_next 22 = .ok (.aload_n 0, 1) := by decide +kernel
theorem dX4_next_23 : decode cX4_next 23 = .ok (.getfield 26, 3) := by decide +kernel
theorem dX4_next_26 : decode cX4_next 26 = .ok (.aload_n 0, 1) := by decide +kernel
theorem dX4_next_27 : decode cX4_next 27 = .ok (.getfield 23, 3) := by decide +kernel
theorem dX4_next_30 : decode cX4_next 30 = .ok (.if_icmp .lt 10, 3) := by decide +kernel
theorem dX4_next_33 : decode cX4_next 33 = .ok (.aload_n 0, 1) := by decide +kernel
theorem dX4_next_34 : decode cX4_next 34 = .ok (.bipush 13, 2) := by decide +kernel
theorem dX4_next_36 : decode cX4_next 36 = .ok (.putfield 59, 3) := by decide +kernel
theorem dX4_next_39 : decode cX4_next 39 = .ok (.return_, 1) := by decide +kernel
theorem dX4_next_40 : decode cX4_next 40 = .ok (.aload_n 0, 1) := by decide +kernel
theorem dX4_next_41 : decode cX4_next 41 = .ok (.getfield 9, 3) := by decide +kernel
theorem dX4_next_44 : decode cX4_next 44 = .ok (.aload_n 0, 1) := by decide +kernel
theorem dX4_next_45 : decode cX4_next 45 = .ok (.getfield 26, 3) := by decide +kernel
theorem dX4_next_48 : decode cX4_next 48 = .ok (.baload, 1) := by decide +kernel
theorem dX4_next_49 : decode cX4_next 49 = .ok (.sipush 255, 3) := by decide +kernel
theorem dX4_next_52 : decode cX4_next 52 = .ok (.iand, 1) := by decide +kernel
theorem dX4_next_53 : decode cX4_next 53 = .ok (.istore_n 1, 1) := by decide +kernel
theorem dX4_next_54 : decode cX4_next 54 = .ok (.iload_n 1, 1) := by decide +kernel
theorem dX4_next_55 : decode cX4_next 55 = .ok (.invokestatic 93, 3) := by decide +kernel
theorem dX4_next_58 : decode cX4_next 58 = .ok (.istore_n 2, 1) := by decide +kernel
theorem dX4_next_59 : decode cX4_next 59 = .ok (.iload_n 2, 1) := by decide +kernel
theorem dX4_next_60 : decode cX4_next 60 = .ok (.bipush 97, 2) := by decide +kernel
theorem dX4_next_62 : decode cX4_next 62 = .ok (.if_icmp .eq 9, 3) := by decide +kernel
theorem dX4_next_65 : decode cX4_next 65 = .ok (.iload_n 2, 1) := by decide +kernel
theorem dX4_next_66 : decode cX4_next 66 = .ok (.bipush 48, 2) := by decide +kernel
theorem dX4_next_68 : decode cX4_next 68 = .ok (.if_icmp .ne 40, 3) := by decide +kernel
theorem dX4_next_71 : decode cX4_next 71 = .ok (.aload_n 0, 1) := by decide +kernel
theorem dX4_next_72 : decode cX4_next 72 = .ok (.aload_n 0, 1) := by decide +kernel
theorem dX4_next_73 : decode cX4_next 73 = .ok (.iload_n 2, 1) := by decide +kernel
theorem dX4_next_74 : decode cX4_next 74 = .ok (.aload_n 0, 1) := by decide +kernel
theorem dX4_next_75 : decode cX4_next 75 = .ok (.getfield 26, 3) := by decide +kernel
theorem dX4_next_78 : decode cX4_next 78 = .ok (.invokevirtual 89, 3) := by decide +kernel
theorem dX4_next_81 : decode cX4_next 81 = .ok (.putfield 26, 3) := by decide +kernel
theorem dX4_next_84 : decode cX4_next 84 = .ok (.aload_n 0, 1) := by decide +kernel
theorem dX4_next_85 : decode cX4_next 85 = .ok (.iload_n 2, 1) := by decide +kernel
theorem dX4_next_86 : decode cX4_next 86 = .ok (.bipush 97, 2) := by decide +kernel
theorem dX4_next_88 : decode cX4_next 88 = .ok (.if_icmp .ne 10, 3) := by decide +kernel
theorem dX4_next_91 : decode cX4_next 91 = .ok (.aload_n 0, 1) := by decide +kernel
theorem dX4_next_92 : decode cX4_next 92 = .ok (.invokevirtual 97, 3) := by decide +kernel
theorem dX4_next_95 : decode cX4_next 95 = .ok (.goto 7, 3) := by decide +kernel
theorem dX4_next_98 : decode cX4_next 98 = .ok (.aload_n 0, 1) := by decide +kernel
theorem dX4_next_99 : decode cX4_next 99 = .ok (.invokevirtual 101, 3) := by decide +kernel
theorem dX4_next_102 : decode cX4_next 102 = .ok (.putfield 59, 3) := by decide +kernel
theorem dX4_next_105 : decode cX4_next 105 = .ok (.goto 33, 3) := by decide +kernel
theorem dX4_next_108 : decode cX4_next 108 = .ok (.aload_n 0, 1) := by decide +kernel
theorem dX4_next_109 : decode cX4_next 109 = .ok (.dup, 1) := by decide +kernel
theorem dX4_next_110 : decode cX4_next 110 = .ok (.getfield 26, 3) := by decide +kernel
theorem dX4_next_113 : decode cX4_next 113 = .ok (.iconst 1, 1) := by decide +kernel
theorem dX4_next_114 : decode cX4_next 114 = .ok (.iadd, 1) := by decide +kernel
theorem dX4_next_115 : decode cX4_next 115 = .ok (.putfield 26, 3) := by decide +kernel
theorem dX4_next_118 : decode cX4_next 118 = .ok (.aload_n 0, 1) := by decide +kernel
theorem dX4_next_119 : decode cX4_next 119 = .ok (.ldc 104, 2) := by decide +kernel
theorem dX4_next_121 : decode cX4_next 121 = .ok (.iload_n 1, 1) := by decide +kernel
theorem dX4_next_122 : decode cX4_next 122 = .ok (.i2c, 1) := by decide +kernel
theorem dX4_next_123 : decode cX4_next 123 = .ok (.invokevirtual 106, 3) := by decide +kernel
theorem dX4_next_126 : decode cX4_next 126 = .ok (.ifCond .lt 7, 3) := by decide +kernel
theorem dX4_next_129 : decode cX4_next 129 = .ok (.iload_n 1, 1) := by decide +kernel
theorem dX4_next_130 : decode cX4_next 130 = .ok (.goto 5, 3) := by decide +kernel
theorem dX4_next_133 : decode cX4_next 133 = .ok (.bipush 14, 2) := by decide +kernel
theorem dX4_next_135 : decode cX4_next 135 = .ok (.putfield 59, 3) := by decide +kernel
theorem dX4_next_138 : decode cX4_next 138 = .ok (.return_, 1) := by decide +kernel
theorem dX4_sortOf_0 : decode cX4_sortOf 0 = .ok (.iload_n 0, 1) := by decide +kernel
theorem dX4_sortOf_1 : decode cX4_sortOf 1 = .ok (.bipush 32, 2) := by decide +kernel
theorem dX4_sortOf_3 : decode cX4_sortOf 3 = .ok (.if_icmp .eq 9, 3) := by decide +kernel
theorem dX4_sortOf_6 : decode cX4_sortOf 6 = .ok (.iload_n 0, 1) := by decide +kernel
theorem dX4_sortOf_7 : decode cX4_sortOf 7 = .ok (.bipush 10, 2) := by decide +kernel
theorem dX4_sortOf_9 : decode cX4_sortOf 9 = .ok (.if_icmp .ne 6, 3) := by decide +kernel
theorem dX4_sortOf_12 : decode cX4_sortOf 12 = .ok (.bipush 32, 2) := by decide +kernel
theorem dX4_sortOf_14 : decode cX4_sortOf 14 = .ok (.ireturn, 1) := by decide +kernel
theorem dX4_sortOf_15 : decode cX4_sortOf 15 = .ok (.iload_n 0, 1) := by decide +kernel
theorem dX4_sortOf_16 : decode cX4_sortOf 16 = .ok (.bipush 97, 2) := by decide +kernel
theorem dX4_sortOf_18 : decode cX4_sortOf 18 = .ok (.if_icmp .lt 14, 3) := by decide +kernel
theorem dX4_sortOf_21 : decode cX4_sortOf 21 = .ok (.iload_n 0, 1) := by decide +kernel
theorem dX4_sortOf_22 : decode cX4_sortOf 22 = .ok (.bipush 122, 2) := by decide +kernel
theorem dX4_sortOf_24 : decode cX4_sortOf 24 = .ok (.if_icmp .gt 8, 3) := by decide +kernel
theorem dX4_sortOf_27 : decode cX4_sortOf 27 = .ok (.bipush 97, 2) := by decide +kernel
theorem dX4_sortOf_29 : decode cX4_sortOf 29 = .ok (.goto 21, 3) := by decide +kernel
theorem dX4_sortOf_32 : decode cX4_sortOf 32 = .ok (.iload_n 0, 1) := by decide +kernel
theorem dX4_sortOf_33 : decode cX4_sortOf 33 = .ok (.bipush 48, 2) := by decide +kernel
theorem dX4_sortOf_35 : decode cX4_sortOf 35 = .ok (.if_icmp .lt 14, 3) := by decide +kernel
theorem dX4_sortOf_38 : decode cX4_sortOf 38 = .ok (.iload_n 0, 1) := by decide +kernel
theorem dX4_sortOf_39 : decode cX4_sortOf 39 = .ok (.bipush 57, 2) := by decide +kernel
theorem dX4_sortOf_41 : decode cX4_sortOf 41 = .ok (.if_icmp .gt 8, 3) := by decide +kernel
theorem dX4_sortOf_44 : decode cX4_sortOf 44 = .ok (.bipush 48, 2) := by decide +kernel
theorem dX4_sortOf_46 : decode cX4_sortOf 46 = .ok (.goto 4, 3) := by decide +kernel
theorem dX4_sortOf_49 : decode cX4_sortOf 49 = .ok (.iconst (-1), 1) := by decide +kernel
theorem dX4_sortOf_50 : decode cX4_sortOf 50 = .ok (.ireturn, 1) := by decide +kernel
theorem dX4_endOf_0 : decode cX4_endOf 0 = .ok (.iload_n 2, 1) := by decide +kernel
theorem dX4_endOf_1 : decode cX4_endOf 1 = .ok (.istore_n 3, 1) := by decide +kernel
theorem dX4_endOf_2 : decode cX4_endOf 2 = .ok (.iload_n 3, 1) := by decide +kernel
theorem dX4_endOf_3 : decode cX4_endOf 3 = .ok (.aload_n 0, 1) := by decide +kernel
theorem dX4_endOf_4 : decode cX4_endOf 4 = .ok (.getfield 23, 3) := by decide +kernel
theorem dX4_endOf_7 : decode cX4_endOf 7 = .ok (.if_icmp .ge 33, 3) := by decide +kernel
theorem dX4_endOf_10 : decode cX4_endOf 10 = .ok (.iload_n 3, 1) := by decide +kernel
theorem dX4_endOf_11 : decode cX4_endOf 11 = .ok (.sipush 160, 3) := by decide +kernel
theorem dX4_endOf_14 : decode cX4_endOf 14 = .ok (.if_icmp .ge 26, 3) := by decide +kernel
theorem dX4_endOf_17 : decode cX4_endOf 17 = .ok (.aload_n 0, 1) := by decide +kernel
theorem dX4_endOf_18 : decode cX4_endOf 18 = .ok (.getfield 9, 3) := by decide +kernel
theorem dX4_endOf_21 : decode cX4_endOf 21 = .ok (.iload_n 3, 1) := by decide +kernel
theorem dX4_endOf_22 : decode cX4_endOf 22 = .ok (.baload, 1) := by decide +kernel
theorem dX4_endOf_23 : decode cX4_endOf 23 = .ok (.sipush 255, 3) := by decide +kernel
theorem dX4_endOf_26 : decode cX4_endOf 26 = .ok (.iand, 1) := by decide +kernel
theorem dX4_endOf_27 : decode cX4_endOf 27 = .ok (.invokestatic 93, 3) := by decide +kernel
theorem dX4_endOf_30 : decode cX4_endOf 30 = .ok (.iload_n 1, 1) := by decide +kernel
theorem dX4_endOf_31 : decode cX4_endOf 31 = .ok (.if_icmp .ne 9, 3) := by decide +kernel
theorem dX4_endOf_34 : decode cX4_endOf 34 = .ok (.iinc 3 1, 3) := by decide +kernel
theorem dX4_endOf_37 : decode cX4_endOf 37 = .ok (.goto (-35), 3) := by decide +kernel
theorem dX4_endOf_40 : decode cX4_endOf 40 = .ok (.iload_n 3, 1) := by decide +kernel
theorem dX4_endOf_41 : decode cX4_endOf 41 = .ok (.ireturn, 1) := by decide +kernel
theorem dX4_numberToken_0 : decode cX4_numberToken 0 = .ok (.aload_n 0, 1) := by decide +kernel
theorem dX4_numberToken_1 : decode cX4_numberToken 1 = .ok (.iconst 0, 1) := by decide +kernel
theorem dX4_numberToken_2 : decode cX4_numberToken 2 = .ok (.putfield 83, 3) := by decide +kernel
theorem dX4_numberToken_5 : decode cX4_numberToken 5 = .ok (.aload_n 0, 1) := by decide +kernel
theorem dX4_numberToken_6 : decode cX4_numberToken 6 = .ok (.getfield 86, 3) := by decide +kernel
theorem dX4_numberToken_9 : decode cX4_numberToken 9 = .ok (.istore_n 1, 1) := by decide +kernel
theorem dX4_numberToken_10 : decode cX4_numberToken 10 = .ok (.iload_n 1, 1) := by decide +kernel
theorem dX4_numberToken_11 : decode cX4_numberToken 11 = .ok (.aload_n 0, 1) := by decide +kernel
theorem dX4_numberToken_12 : decode cX4_numberToken 12 = .ok (.getfield 26, 3) := by decide +kernel
theorem dX4_numberToken_15 : decode cX4_numberToken 15 = .ok (.if_icmp .ge 30, 3) := by decide +kernel
theorem dX4_numberToken_18 : decode cX4_numberToken 18 = .ok (.aload_n 0, 1) := by decide +kernel
theorem dX4_numberToken_19 : decode cX4_numberToken 19 = .ok (.aload_n 0, 1) := by decide +kernel
theorem dX4_numberToken_20 : decode cX4_numberToken 20 = .ok (.getfield 83, 3) := by decide +kernel
theorem dX4_numberToken_23 : decode cX4_numberToken 23 = .ok (.bipush 10, 2) := by decide +kernel
theorem dX4_numberToken_25 : decode cX4_numberToken 25 = .ok (.imul, 1) := by decide +kernel
theorem dX4_numberToken_26 : decode cX4_numberToken 26 = .ok (.aload_n 0, 1) := by decide +kernel
theorem dX4_numberToken_27 : decode cX4_numberToken 27 = .ok (.getfield 9, 3) := by decide +kernel
theorem dX4_numberToken_30 : decode cX4_numberToken 30 = .ok (.iload_n 1, 1) := by decide +kernel
theorem dX4_numberToken_31 : decode cX4_numberToken 31 = .ok (.baload, 1) := by decide +kernel
theorem dX4_numberToken_32 : decode cX4_numberToken 32 = .ok (.bipush 48, 2) := by decide +kernel
theorem dX4_numberToken_34 : decode cX4_numberToken 34 = .ok (.isub, 1) := by decide +kernel
theorem dX4_numberToken_35 : decode cX4_numberToken 35 = .ok (.iadd, 1) := by decide +kernel
theorem dX4_numberToken_36 : decode cX4_numberToken 36 = .ok (.putfield 83, 3) := by decide +kernel
theorem dX4_numberToken_39 : decode cX4_numberToken 39 = .ok (.iinc 1 1, 3) := by decide +kernel
theorem dX4_numberToken_42 : decode cX4_numberToken 42 = .ok (.goto (-32), 3) := by decide +kernel
theorem dX4_numberToken_45 : decode cX4_numberToken 45 = .ok (.aload_n 0, 1) := by decide +kernel
theorem dX4_numberToken_46 : decode cX4_numberToken 46 = .ok (.getfield 26, 3) := by decide +kernel
theorem dX4_numberToken_49 : decode cX4_numberToken 49 = .ok (.aload_n 0, 1) := by decide +kernel
theorem dX4_numberToken_50 : decode cX4_numberToken 50 = .ok (.getfield 86, 3) := by decide +kernel
theorem dX4_numberToken_53 : decode cX4_numberToken 53 = .ok (.isub, 1) := by decide +kernel
theorem dX4_numberToken_54 : decode cX4_numberToken 54 = .ok (.iconst 4, 1) := by decide +kernel
theorem dX4_numberToken_55 : decode cX4_numberToken 55 = .ok (.if_icmp .gt 8, 3) := by decide +kernel
theorem dX4_numberToken_58 : decode cX4_numberToken 58 = .ok (.bipush 12, 2) := by decide +kernel
theorem dX4_numberToken_60 : decode cX4_numberToken 60 = .ok (.goto 5, 3) := by decide +kernel
theorem dX4_numberToken_63 : decode cX4_numberToken 63 = .ok (.bipush 14, 2) := by decide +kernel
theorem dX4_numberToken_65 : decode cX4_numberToken 65 = .ok (.ireturn, 1) := by decide +kernel
theorem dX4_wordToken_0 : decode cX4_wordToken 0 = .ok (.iconst 0, 1) := by decide +kernel
theorem dX4_wordToken_1 : decode cX4_wordToken 1 = .ok (.istore_n 1, 1) := by decide +kernel
theorem dX4_wordToken_2 : decode cX4_wordToken 2 = .ok (.aload_n 0, 1) := by decide +kernel
theorem dX4_wordToken_3 : decode cX4_wordToken 3 = .ok (.getfield 86, 3) := by decide +kernel
theorem dX4_wordToken_6 : decode cX4_wordToken 6 = .ok (.istore_n 2, 1) := by decide +kernel
theorem dX4_wordToken_7 : decode cX4_wordToken 7 = .ok (.iconst 1, 1) := by decide +kernel
theorem dX4_wordToken_8 : decode cX4_wordToken 8 = .ok (.istore_n 3, 1) := by decide +kernel
theorem dX4_wordToken_9 : decode cX4_wordToken 9 = .ok (.iconst 0, 1) := by decide +kernel
theorem dX4_wordToken_10 : decode cX4_wordToken 10 = .ok (.istore 4, 2) := by decide +kernel
theorem dX4_wordToken_12 : decode cX4_wordToken 12 = .ok (.iload 4, 2) := by decide +kernel
theorem dX4_wordToken_14 : decode cX4_wordToken 14 = .ok (.ldc 111, 2) := by decide +kernel
theorem dX4_wordToken_16 : decode cX4_wordToken 16 = .ok (.invokevirtual 113, 3) := by decide +kernel
theorem dX4_wordToken_19 : decode cX4_wordToken 19 = .ok (.if_icmp .ge 84, 3) := by decide +kernel
theorem dX4_wordToken_22 : decode cX4_wordToken 22 = .ok (.ldc 111, 2) := by decide +kernel
theorem dX4_wordToken_24 : decode cX4_wordToken 24 = .ok (.iload 4, 2) := by decide +kernel
theorem dX4_wordToken_26 : decode cX4_wordToken 26 = .ok (.invokevirtual 116, 3) := by decide +kernel
theorem dX4_wordToken_29 : decode cX4_wordToken 29 = .ok (.istore 5, 2) := by decide +kernel
theorem dX4_wordToken_31 : decode cX4_wordToken 31 = .ok (.iload 5, 2) := by decide +kernel
theorem dX4_wordToken_33 : decode cX4_wordToken 33 = .ok (.bipush 32, 2) := by decide +kernel
theorem dX4_wordToken_35 : decode cX4_wordToken 35 = .ok (.if_icmp .eq 38, 3) := by decide +kernel
theorem dX4_wordToken_38 : decode cX4_wordToken 38 = .ok (.iload_n 3, 1) := by decide +kernel
theorem dX4_wordToken_39 : decode cX4_wordToken 39 = .ok (.ifCond .eq 26, 3) := by decide +kernel
theorem dX4_wordToken_42 : decode cX4_wordToken 42 = .ok (.iload_n 2, 1) := by decide +kernel
theorem dX4_wordToken_43 : decode cX4_wordToken 43 = .ok (.aload_n 0, 1) := by decide +kernel
theorem dX4_wordToken_44 : decode cX4_wordToken 44 = .ok (.getfield 26, 3) := by decide +kernel
theorem dX4_wordToken_47 : decode cX4_wordToken 47 = .ok (.if_icmp .ge 18, 3) := by decide +kernel
theorem dX4_wordToken_50 : decode cX4_wordToken 50 = .ok (.aload_n 0, 1) := by decide +kernel
theorem dX4_wordToken_51 : decode cX4_wordToken 51 = .ok (.getfield 9, 3) := by decide +kernel
theorem dX4_wordToken_54 : decode cX4_wordToken 54 = .ok (.iload_n 2, 1) := by decide +kernel
theorem dX4_wordToken_55 : decode cX4_wordToken 55 = .ok (.baload, 1) := by decide +kernel
theorem dX4_wordToken_56 : decode cX4_wordToken 56 = .ok (.iload 5, 2) := by decide +kernel
theorem dX4_wordToken_58 : decode cX4_wordToken 58 = .ok (.if_icmp .ne 7, 3) := by decide +kernel
theorem dX4_wordToken_61 : decode cX4_wordToken 61 = .ok (.iconst 1, 1) := by decide +kernel
theorem dX4_wordToken_62 : decode cX4_wordToken 62 = .ok (.goto 4, 3) := by decide +kernel
theorem dX4_wordToken_65 : decode cX4_wordToken 65 = .ok (.iconst 0, 1) := by decide +kernel
theorem dX4_wordToken_66 : decode cX4_wordToken 66 = .ok (.istore_n 3, 1) := by decide +kernel
theorem dX4_wordToken_67 : decode cX4_wordToken 67 = .ok (.iinc 2 1, 3) := by decide +kernel
theorem dX4_wordToken_70 : decode cX4_wordToken 70 = .ok (.goto 27, 3) := by decide +kernel
theorem dX4_wordToken_73 : decode cX4_wordToken 73 = .ok (.iload_n 3, 1) := by decide +kernel
theorem dX4_wordToken_74 : decode cX4_wordToken 74 = .ok (.ifCond .eq 13, 3) := by decide +kernel
theorem dX4_wordToken_77 : decode cX4_wordToken 77 = .ok (.iload_n 2, 1) := by decide +kernel
theorem dX4_wordToken_78 : decode cX4_wordToken 78 = .ok (.aload_n 0, 1) := by decide +kernel
theorem dX4_wordToken_79 : decode cX4_wordToken 79 = .ok (.getfield 26, 3) := by decide +kernel
theorem dX4_wordToken_82 : decode cX4_wordToken 82 = .ok (.if_icmp .ne 5, 3) := by decide +kernel
theorem dX4_wordToken_85 : decode cX4_wordToken 85 = .ok (.iload_n 1, 1) := by decide +kernel
theorem dX4_wordToken_86 : decode cX4_wordToken 86 = .ok (.ireturn, 1) := by decide +kernel
theorem dX4_wordToken_87 : decode cX4_wordToken 87 = .ok (.iinc 1 1, 3) := by decide +kernel
theorem dX4_wordToken_90 : decode cX4_wordToken 90 = .ok (.aload_n 0, 1) := by decide +kernel
theorem dX4_wordToken_91 : decode cX4_wordToken 91 = .ok (.getfield 86, 3) := by decide +kernel
theorem dX4_wordToken_94 : decode cX4_wordToken 94 = .ok (.istore_n 2, 1) := by decide +kernel
theorem dX4_wordToken_95 : decode cX4_wordToken 95 = .ok (.iconst 1, 1) := by decide +kernel
theorem dX4_wordToken_96 : decode cX4_wordToken 96 = .ok (.istore_n 3, 1) := by decide +kernel
theorem dX4_wordToken_97 : decode cX4_wordToken 97 = .ok (.iinc 4 1, 3) := by decide +kernel
theorem dX4_wordToken_100 : decode cX4_wordToken 100 = .ok (.goto (-88), 3) := by decide +kernel
theorem dX4_wordToken_103 : decode cX4_wordToken 103 = .ok (.bipush 14, 2) := by decide +kernel
theorem dX4_wordToken_105 : decode cX4_wordToken 105 = .ok (.ireturn, 1) := by decide +kernel
theorem dX5_init_0 : decode cX5_init 0 = .ok (.aload_n 0, 1) := by decide +kernel
theorem dX5_init_1 : decode cX5_init 1 = .ok (.invokespecial 3, 3) := by decide +kernel
theorem dX5_init_4 : decode cX5_init 4 = .ok (.aload_n 0, 1) := by decide +kernel
theorem dX5_init_5 : decode cX5_init 5 = .ok (.aload_n 1, 1) := by decide +kernel
theorem dX5_init_6 : decode cX5_init 6 = .ok (.putfield 9, 3) := by decide +kernel
theorem dX5_init_9 : decode cX5_init 9 = .ok (.aload_n 0, 1) := by decide +kernel
theorem dX5_init_10 : decode cX5_init 10 = .ok (.iload_n 2, 1) := by decide +kernel
theorem dX5_init_11 : decode cX5_init 11 = .ok (.putfield 15, 3) := by decide +kernel
theorem dX5_init_14 : decode cX5_init 14 = .ok (.aload_n 0, 1) := by decide +kernel
theorem dX5_init_15 : decode cX5_init 15 = .ok (.iload_n 3, 1) := by decide +kernel
theorem dX5_init_16 : decode cX5_init 16 = .ok (.putfield 19, 3) := by decide +kernel
theorem dX5_init_19 : decode cX5_init 19 = .ok (.return_, 1) := by decide +kernel
theorem dX5_valueOf_0 : decode cX5_valueOf 0 = .ok (.iload_n 1, 1) := by decide +kernel
theorem dX5_valueOf_1 : decode cX5_valueOf 1 = .ok (.ifCond .ne 7, 3) := by decide +kernel
theorem dX5_valueOf_4 : decode cX5_valueOf 4 = .ok (.iconst 0, 1) := by decide +kernel
theorem dX5_valueOf_5 : decode cX5_valueOf 5 = .ok (.goto 19, 3) := by decide +kernel
theorem dX5_valueOf_8 : decode cX5_valueOf 8 = .ok (.iload_n 1, 1) := by decide +kernel
theorem dX5_valueOf_9 : decode cX5_valueOf 9 = .ok (.iconst 1, 1) := by decide +kernel
theorem dX5_valueOf_10 : decode cX5_valueOf 10 = .ok (.if_icmp .ne 10, 3) := by decide +kernel
theorem dX5_valueOf_13 : decode cX5_valueOf 13 = .ok (.aload_n 0, 1) := by decide +kernel
theorem dX5_valueOf_14 : decode cX5_valueOf 14 = .ok (.getfield 15, 3) := by decide +kernel
theorem dX5_valueOf_17 : decode cX5_valueOf 17 = .ok (.goto 7, 3) := by decide +kernel
theorem dX5_valueOf_20 : decode cX5_valueOf 20 = .ok (.aload_n 0, 1) := by decide +kernel
theorem dX5_valueOf_21 : decode cX5_valueOf 21 = .ok (.getfield 19, 3) := by decide +kernel
theorem dX5_valueOf_24 : decode cX5_valueOf 24 = .ok (.istore 4, 2) := by decide +kernel
theorem dX5_valueOf_26 : decode cX5_valueOf 26 = .ok (.iload_n 1, 1) := by decide +kernel
theorem dX5_valueOf_27 : decode cX5_valueOf 27 = .ok (.ifCond .ne 10, 3) := by decide +kernel
theorem dX5_valueOf_30 : decode cX5_valueOf 30 = .ok (.aload_n 0, 1) := by decide +kernel
theorem dX5_valueOf_31 : decode cX5_valueOf 31 = .ok (.getfield 15, 3) := by decide +kernel
theorem dX5_valueOf_34 : decode cX5_valueOf 34 = .ok (.goto 20, 3) := by decide +kernel
theorem dX5_valueOf_37 : decode cX5_valueOf 37 = .ok (.iload_n 1, 1) := by decide +kernel
theorem dX5_valueOf_38 : decode cX5_valueOf 38 = .ok (.iconst 1, 1) := by decide +kernel
theorem dX5_valueOf_39 : decode cX5_valueOf 39 = .ok (.if_icmp .ne 10, 3) := by decide +kernel
theorem dX5_valueOf_42 : decode cX5_valueOf 42 = .ok (.aload_n 0, 1) := by decide +kernel
theorem dX5_valueOf_43 : decode cX5_valueOf 43 = .ok (.getfield 19, 3) := by decide +kernel
theorem dX5_valueOf_46 : decode cX5_valueOf 46 = .ok (.goto 8, 3) := by decide +kernel
theorem dX5_valueOf_49 : decode cX5_valueOf 49 = .ok (.aload_n 0, 1) := by decide +kernel
theorem dX5_valueOf_50 : decode cX5_valueOf 50 = .ok (.getfield 9, 3) := by decide +kernel
theorem dX5_valueOf_53 : decode cX5_valueOf 53 = .ok (.arraylength, 1) := by decide +kernel
theorem dX5_valueOf_54 : decode cX5_valueOf 54 = .ok (.istore 5, 2) := by decide +kernel
theorem dX5_valueOf_56 : decode cX5_valueOf 56 = .ok (.iconst 0, 1) := by decide +kernel
theorem dX5_valueOf_57 : decode cX5_valueOf 57 = .ok (.istore 6, 2) := by decide +kernel
theorem dX5_valueOf_59 : decode cX5_valueOf 59 = .ok (.iload 4, 2) := by decide +kernel
theorem dX5_valueOf_61 : decode cX5_valueOf 61 = .ok (.istore 7, 2) := by decide +kernel
theorem dX5_valueOf_63 : decode cX5_valueOf 63 = .ok (.iload 7, 2) := by decide +kernel
theorem dX5_valueOf_65 : decode cX5_valueOf 65 = .ok (.ifCond .lt 170, 3) := by decide +kernel
theorem dX5_valueOf_68 : decode cX5_valueOf 68 = .ok (.iload 7, 2) := by decide +kernel
theorem dX5_valueOf_70 : decode cX5_valueOf 70 = .ok (.iload 5, 2) := by decide +kernel
theorem dX5_valueOf_72 : decode cX5_valueOf 72 = .ok (.if_icmp .ge 163, 3) := by decide +kernel
theorem dX5_valueOf_75 : decode cX5_valueOf 75 = .ok (.iload 7, 2) := by decide +kernel
theorem dX5_valueOf_77 : decode cX5_valueOf 77 = .ok (.aload_n 0, 1) := by decide +kernel
theorem dX5_valueOf_78 : decode cX5_valueOf 78 = .ok (.getfield 9, 3) := by decide +kernel
theorem dX5_valueOf_81 : decode cX5_valueOf 81 = .ok (.arraylength, 1) := by decide +kernel
theorem dX5_valueOf_82 : decode cX5_valueOf 82 = .ok (.if_icmp .ge 153, 3) := by decide +kernel
theorem dX5_valueOf_85 : decode cX5_valueOf 85 = .ok (.aload_n 0, 1) := by decide +kernel
theorem dX5_valueOf_86 : decode cX5_valueOf 86 = .ok (.getfield 9, 3) := by decide +kernel
theorem dX5_valueOf_89 : decode cX5_valueOf 89 = .ok (.iload 7, 2) := by decide +kernel
theorem dX5_valueOf_91 : decode cX5_valueOf 91 = .ok (.iaload, 1) := by decide +kernel
theorem dX5_valueOf_92 : decode cX5_valueOf 92 = .ok (.istore 8, 2) := by decide +kernel
theorem dX5_valueOf_94 : decode cX5_valueOf 94 = .ok (.iload 8, 2) := by decide +kernel
theorem dX5_valueOf_96 : decode cX5_valueOf 96 = .ok (.aload_n 2, 1) := by decide +kernel
theorem dX5_valueOf_97 : decode cX5_valueOf 97 = .ok (.arraylength, 1) := by decide +kernel
theorem dX5_valueOf_98 : decode cX5_valueOf 98 = .ok (.ineg, 1) := by decide +kernel
theorem dX5_valueOf_99 : decode cX5_valueOf 99 = .ok (.if_icmp .lt 36, 3) := by decide +kernel
theorem dX5_valueOf_102 : decode cX5_valueOf 102 = .ok (.iload 6, 2) := by decide +kernel
theorem dX5_valueOf_104 : decode cX5_valueOf 104 = .ok (.aload_n 3, 1) := by decide +kernel
theorem dX5_valueOf_105 : decode cX5_valueOf 105 = .ok (.arraylength, 1) := by decide +kernel
theorem dX5_valueOf_106 : decode cX5_valueOf 106 = .ok (.if_icmp .ge 123, 3) := by decide +kernel
theorem dX5_valueOf_109 : decode cX5_valueOf 109 = .ok (.aload_n 3, 1) := by decide +kernel
theorem dX5_valueOf_110 : decode cX5_valueOf 110 = .ok (.iload 6, 2) := by decide +kernel
theorem dX5_valueOf_112 : decode cX5_valueOf 112 = .ok (.iload 8, 2) := by decide +kernel
theorem dX5_valueOf_114 : decode cX5_valueOf 114 = .ok (.ifCond .lt 8, 3) := by decide +kernel
theorem dX5_valueOf_117 : decode cX5_valueOf 117 = .ok (.iload 8, 2) := by decide +kernel
theorem dX5_valueOf_119 : decode cX5_valueOf 119 = .ok (.goto 9, 3) := by decide +kernel
theorem dX5_valueOf_122 : decode cX5_valueOf 122 = .ok (.aload_n 2, 1) := by decide +kernel
theorem dX5_valueOf_123 : decode cX5_valueOf 123 = .ok (.iconst (-1), 1) := by decide +kernel
theorem dX5_valueOf_124 : decode cX5_valueOf 124 = .ok (.iload 8, 2) := by decide +kernel
theorem dX5_valueOf_126 : decode cX5_valueOf 126 = .ok (.isub, 1) := by decide +kernel
theorem dX5_valueOf_127 : decode cX5_valueOf 127 = .ok (.iaload, 1) := by decide +kernel
theorem dX5_valueOf_128 : decode cX5_valueOf 128 = .ok (.iastore, 1) := by decide +kernel
theorem dX5_valueOf_129 : decode cX5_valueOf 129 = .ok (.iinc 6 1, 3) := by decide +kernel
theorem dX5_valueOf_132 : decode cX5_valueOf 132 = .ok (.goto 97, 3) := by decide +kernel
theorem dX5_valueOf_135 : decode cX5_valueOf 135 = .ok (.iload 8, 2) := by decide +kernel
theorem dX5_valueOf_137 : decode cX5_valueOf 137 = .ok (.bipush (-100), 2) := by decide +kernel
theorem dX5_valueOf_139 : decode cX5_valueOf 139 = .ok (.if_icmp .eq 10, 3) := by decide +kernel
theorem dX5_valueOf_142 : decode cX5_valueOf 142 = .ok (.iload 8, 2) := by decide +kernel
theorem dX5_valueOf_144 : decode cX5_valueOf 144 = .ok (.bipush (-11), 2) := by decide +kernel
theorem dX5_valueOf_146 : decode cX5_valueOf 146 = .ok (.if_icmp .ne 52, 3) := by decide +kernel
theorem dX5_valueOf_149 : decode cX5_valueOf 149 = .ok (.iload 6, 2) := by decide +kernel
theorem dX5_valueOf_151 : decode cX5_valueOf 151 = .ok (.iconst 1, 1) := by decide +kernel
theorem dX5_valueOf_152 : decode cX5_valueOf 152 = .ok (.if_icmp .lt 77, 3) := by decide +kernel
theorem dX5_valueOf_155 : decode cX5_valueOf 155 = .ok (.aload_n 3, 1) := by decide +kernel
theorem dX5_valueOf_156 : decode cX5_valueOf 156 = .ok (.iload 6, 2) := by decide +kernel
theorem dX5_valueOf_158 : decode cX5_valueOf 158 = .ok (.iconst 1, 1) := by decide +kernel
theorem dX5_valueOf_159 : decode cX5_valueOf 159 = .ok (.isub, 1) := by decide +kernel
theorem dX5_valueOf_160 : decode cX5_valueOf 160 = .ok (.iaload, 1) := by decide +kernel
theorem dX5_valueOf_161 : decode cX5_valueOf 161 = .ok (.istore 9, 2) := by decide +kernel
theorem dX5_valueOf_163 : decode cX5_valueOf 163 = .ok (.aload_n 3, 1) := by decide +kernel
theorem dX5_valueOf_164 : decode cX5_valueOf 164 = .ok (.iload 6, 2) := by decide +kernel
theorem dX5_valueOf_166 : decode cX5_valueOf 166 = .ok (.iconst 1, 1) := by decide +kernel
theorem dX5_valueOf_167 : decode cX5_valueOf 167 = .ok (.isub, 1) := by decide +kernel
theorem dX5_valueOf_168 : decode cX5_valueOf 168 = .ok (.iload 8, 2) := by decide +kernel
theorem dX5_valueOf_170 : decode cX5_valueOf 170 = .ok (.bipush (-100), 2) := by decide +kernel
