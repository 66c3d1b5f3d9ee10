theorem tb_ps {ws : List Cond} (ps : List Nat) (hp : ws = ps.filterMap (fun i => lw_tbl[i]?)) (hg : ws.all goodWord = true) : ∀ w ∈ ws, w ∈ tb := by
  intro w hw
  have h1 := List.all_eq_true.mp hg w hw
  rw [hp] at hw
  obtain ⟨i, -, hi⟩ := List.mem_filterMap.mp hw
  exact tb_at i hi h1
set_option maxRecDepth 100000 in
theorem ut0 : ∀ w ∈ u_ws RX0 TX0 3, w ∈ tb := tb_ps [117, 119, 121] (by decide +kernel) (by decide +kernel)
set_option maxRecDepth 100000 in
theorem ut1 : ∀ w ∈ u_ws RX1 TX1 9, w ∈ tb := tb_ps [640, 642, 644, 646, 648, 650, 652, 654, 656] (by decide +kernel) (by decide +kernel)
set_option maxRecDepth 100000 in
theorem ut2 : ∀ w ∈ u_ws RX2 TX2 5, w ∈ tb := tb_ps [213, 215, 217, 219, 221] (by decide +kernel) (by decide +kernel)
set_option maxRecDepth 100000 in
theorem ut3 : ∀ w ∈ u_ws RX3 TX3 6, w ∈ tb := tb_ps [143, 145, 147, 149, 151, 153] (by decide +kernel) (by decide +kernel)
set_option maxRecDepth 100000 in
theorem ut4 : ∀ w ∈ u_ws RX4 TX4 9, w ∈ tb := tb_ps [173, 175, 177, 179, 181, 183, 185, 187, 189] (by decide +kernel) (by decide +kernel)
set_option maxRecDepth 100000 in
theorem ut5 : ∀ w ∈ u_ws RX5 TX5 3, w ∈ tb := tb_ps [474, 476, 478] (by decide +kernel) (by decide +kernel)
set_option maxRecDepth 100000 in
theorem ut6 : ∀ w ∈ u_ws RX6 TX6 3, w ∈ tb := tb_ps [261, 263, 265] (by decide +kernel) (by decide +kernel)
set_option maxRecDepth 100000 in
theorem ut7 : ∀ w ∈ u_ws RX7 TX7 5, w ∈ tb := tb_ps [239, 241, 243, 245, 247] (by decide +kernel) (by decide +kernel)
set_option maxRecDepth 100000 in
theorem ut8 : ∀ w ∈ u_ws RX8 TX8 6, w ∈ tb := tb_ps [562, 564, 566, 568, 570, 572] (by decide +kernel) (by decide +kernel)
set_option maxRecDepth 100000 in
theorem ut9 : ∀ w ∈ u_ws RX9 TX9 17, w ∈ tb := tb_ps [498, 500, 502, 504, 506, 508, 510, 512, 514, 516, 518, 520, 522, 524, 526, 528, 530] (by decide +kernel) (by decide +kernel)
set_option maxRecDepth 100000 in
theorem ut10 : ∀ w ∈ u_ws RX10 TX10 60, w ∈ tb := tb_ps [1014, 1016, 1018, 1020, 1022, 1024, 1026, 1028, 1030, 1032, 1034, 1036, 1038, 1040, 1042, 1044, 1046, 1048, 1050, 1052, 1054, 1056, 1058, 1060, 1062, 1064, 1066, 1068, 1070, 1072, 1074, 1076, 1078, 1080, 1082, 1084, 1086, 1088, 1090, 1092, 1094, 1096, 1098, 1100, 1102, 1104, 1106, 1108, 1110, 1112, 1114, 1116, 1118, 1120, 1122, 1124, 1126, 1128, 1130, 1132] (by decide +kernel) (by decide +kernel)
theorem ml_RJ0_335 : Cond.methodLink RJ0 335 yJ0_coder_7d493 ∈ tb := tb_at 273 (by decide +kernel) (by decide +kernel)
theorem ml_RJ0_492 : Cond.methodLink RJ0 492 yJ0_isLatin1_aae02 ∈ tb := tb_at 283 (by decide +kernel) (by decide +kernel)
theorem ml_RJ0_495 : Cond.methodLink RJ0 495 yJ1_charAt_3b067 ∈ tb := tb_at 287 (by decide +kernel) (by decide +kernel)
theorem ml_RJ0_498 : Cond.methodLink RJ0 498 yJ2_charAt_3b067 ∈ tb := tb_at 298 (by decide +kernel) (by decide +kernel)
theorem ml_RJ0_505 : Cond.methodLink RJ0 505 yJ0_length_8abf5 ∈ tb := tb_at 356 (by decide +kernel) (by decide +kernel)
theorem ml_RJ0_633 : Cond.methodLink RJ0 633 yJ0_indexOf_7cf53 ∈ tb := tb_at 352 (by decide +kernel) (by decide +kernel)
theorem ml_RJ0_637 : Cond.methodLink RJ0 637 yJ1_indexOf_4cfef ∈ tb := tb_at 357 (by decide +kernel) (by decide +kernel)
theorem ml_RJ0_640 : Cond.methodLink RJ0 640 yJ2_indexOf_4cfef ∈ tb := tb_at 372 (by decide +kernel) (by decide +kernel)
theorem ml_RJ0_1059 : Cond.methodLink RJ0 1059 yJ3_checkIndex_8e157 ∈ tb := tb_at 295 (by decide +kernel) (by decide +kernel)
theorem ml_RJ0_1062 : Cond.methodLink RJ0 1062 yJ3_checkFromToIndex_8c36e ∈ tb := tb_at 387 (by decide +kernel) (by decide +kernel)
theorem ml_RJ1_9 : Cond.methodLink RJ1 9 yJ0_checkIndex_df160 ∈ tb := tb_at 290 (by decide +kernel) (by decide +kernel)
theorem ml_RJ1_38 : Cond.methodLink RJ1 38 yJ9_min_7cf53 ∈ tb := tb_at 366 (by decide +kernel) (by decide +kernel)
theorem ml_RJ1_88 : Cond.methodLink RJ1 88 yJ1_canEncode_9a6ad ∈ tb := tb_at 360 (by decide +kernel) (by decide +kernel)
theorem ml_RJ1_92 : Cond.methodLink RJ1 92 yJ9_max_7cf53 ∈ tb := tb_at 363 (by decide +kernel) (by decide +kernel)
theorem ml_RJ1_95 : Cond.methodLink RJ1 95 yJ1_indexOfChar_4cfef ∈ tb := tb_at 369 (by decide +kernel) (by decide +kernel)
theorem kc_RJ11_76 : Cond.constant RJ11 76 (56320 : Int32) ∈ tb := tb_at 406 (by decide +kernel) (by decide +kernel)
theorem kc_RJ11_110 : Cond.constant RJ11 110 (55232 : Int32) ∈ tb := tb_at 402 (by decide +kernel) (by decide +kernel)
theorem ml_RJ2_48 : Cond.methodLink RJ2 48 yJ2_length_9d52b ∈ tb := tb_at 304 (by decide +kernel) (by decide +kernel)
theorem ml_RJ2_67 : Cond.methodLink RJ2 67 yJ2_checkIndex_2214a ∈ tb := tb_at 301 (by decide +kernel) (by decide +kernel)
theorem ml_RJ2_71 : Cond.methodLink RJ2 71 yJ2_getChar_3b067 ∈ tb := tb_at 308 (by decide +kernel) (by decide +kernel)
theorem ml_RJ2_96 : Cond.methodLink RJ2 96 yJ2_checkBoundsBeginEnd_d044e ∈ tb := tb_at 381 (by decide +kernel) (by decide +kernel)
theorem ml_RJ2_157 : Cond.methodLink RJ2 157 yJ11_highSurrogate_5068e ∈ tb := tb_at 399 (by decide +kernel) (by decide +kernel)
theorem ml_RJ2_161 : Cond.methodLink RJ2 161 yJ11_lowSurrogate_5068e ∈ tb := tb_at 403 (by decide +kernel) (by decide +kernel)
theorem ml_RJ2_164 : Cond.methodLink RJ2 164 yJ11_isValidCodePoint_9a6ad ∈ tb := tb_at 396 (by decide +kernel) (by decide +kernel)
theorem ml_RJ2_183 : Cond.methodLink RJ2 183 yJ9_min_7cf53 ∈ tb := tb_at 376 (by decide +kernel) (by decide +kernel)
theorem ml_RJ2_224 : Cond.methodLink RJ2 224 yJ9_max_7cf53 ∈ tb := tb_at 375 (by decide +kernel) (by decide +kernel)
theorem kc_RJ2_227 : Cond.constant RJ2 227 (65536 : Int32) ∈ tb := tb_at 377 (by decide +kernel) (by decide +kernel)
theorem ml_RJ2_228 : Cond.methodLink RJ2 228 yJ2_indexOfChar_4cfef ∈ tb := tb_at 378 (by decide +kernel) (by decide +kernel)
theorem ml_RJ2_232 : Cond.methodLink RJ2 232 yJ2_indexOfSupplementary_4cfef ∈ tb := tb_at 393 (by decide +kernel) (by decide +kernel)
theorem ml_RJ2_241 : Cond.methodLink RJ2 241 yJ0_checkBoundsBeginEnd_23922 ∈ tb := tb_at 384 (by decide +kernel) (by decide +kernel)
theorem ml_RJ2_244 : Cond.methodLink RJ2 244 yJ2_indexOfCharUnsafe_4cfef ∈ tb := tb_at 390 (by decide +kernel) (by decide +kernel)
theorem ml_RJ2_414 : Cond.methodLink RJ2 414 yJ0_checkIndex_df160 ∈ tb := tb_at 307 (by decide +kernel) (by decide +kernel)
theorem kc_RJ6_265 : Cond.constant RJ6 265 (1431655765 : Int32) ∈ tb := tb_at 701 (by decide +kernel) (by decide +kernel)
theorem kc_RJ6_266 : Cond.constant RJ6 266 (858993459 : Int32) ∈ tb := tb_at 702 (by decide +kernel) (by decide +kernel)
theorem kc_RJ6_267 : Cond.constant RJ6 267 (252645135 : Int32) ∈ tb := tb_at 703 (by decide +kernel) (by decide +kernel)
theorem ml_RJ7_150 : Cond.methodLink RJ7 150 ⟨"java/lang/System", "arraycopy", "(Ljava/lang/Object;ILjava/lang/Object;II)V"⟩ ∈ tb := tb_at 464 (by decide +kernel) (by decide +kernel)
theorem ml_RJ7_304 : Cond.methodLink RJ7 304 yJ9_min_7cf53 ∈ tb := tb_at 463 (by decide +kernel) (by decide +kernel)
theorem ml_RJ7_316 : Cond.methodLink RJ7 316 ⟨"[I", "clone", "()Ljava/lang/Object;"⟩ ∈ tb := tb_at 456 (by decide +kernel) (by decide +kernel)
set_option maxRecDepth 100000 in
theorem nw_RL_7 : NW RL 7 9 17 [.null, .int 0, .null, .int 0, .null, .int 0, .int 0, .null, .null, .null, .null, .null, .null, .null, .null, .null, .null] := ⟨RX9, TX9, tyX9, rfl, ut9, tyX9_ok, tb_at 90 (by decide +kernel) (by decide +kernel), tb_at 91 (by decide +kernel) (by decide +kernel), tb_at 70 (by decide +kernel) (by decide +kernel), by decide +kernel⟩
theorem ml_RL_9 : Cond.methodLink RL 9 yX9_init ∈ tb := tb_at 92 (by decide +kernel) (by decide +kernel)
set_option maxRecDepth 100000 in
theorem nw_RL_10 : NW RL 10 10 60 [.int 0, .null, .null, .int 0, .int 0, .null, .int 0, .null, .null, .null, .null, .null, .int 0, .null, .null, .null, .null, .null, .null, .null, .int 0, .null, .null, .null, .null, .null, .int 0, .int 0, .int 0, .int 0, .int 0, .long 0, .int 0, .int 0, .int 0, .int 0, .int 0, .int 0, .int 0, .int 0, .int 0, .int 0, .null, .null, .null, .null, .null, .null, .null, .null, .null, .null, .int 0, .int 0, .int 0, .int 0, .null, .null, .null, .null] := ⟨RX10, TX10, tyX10, rfl, ut10, tyX10_ok, tb_at 934 (by decide +kernel) (by decide +kernel), tb_at 935 (by decide +kernel) (by decide +kernel), tb_at 86 (by decide +kernel) (by decide +kernel), by decide +kernel⟩
theorem ml_RL_12 : Cond.methodLink RL 12 yX10_init ∈ tb := tb_at 936 (by decide +kernel) (by decide +kernel)
theorem ml_RL_13 : Cond.methodLink RL 13 yX9_wine ∈ tb := tb_at 533 (by decide +kernel) (by decide +kernel)
theorem ml_RL_17 : Cond.methodLink RL 17 yX10_wine ∈ tb := tb_at 1136 (by decide +kernel) (by decide +kernel)
theorem ml_RL_18 : Cond.methodLink RL 18 yX9_drunk ∈ tb := tb_at 575 (by decide +kernel) (by decide +kernel)
theorem ml_RL_22 : Cond.methodLink RL 22 yX10_drunk ∈ tb := tb_at 1150 (by decide +kernel) (by decide +kernel)
theorem ml_RL_23 : Cond.methodLink RL 23 yX9_book ∈ tb := tb_at 586 (by decide +kernel) (by decide +kernel)
theorem ml_RL_26 : Cond.methodLink RL 26 yX10_book ∈ tb := tb_at 1158 (by decide +kernel) (by decide +kernel)
theorem ml_RL_27 : Cond.methodLink RL 27 yX9_test ∈ tb := tb_at 598 (by decide +kernel) (by decide +kernel)
theorem ml_RL_30 : Cond.methodLink RL 30 yX10_test ∈ tb := tb_at 1164 (by decide +kernel) (by decide +kernel)
theorem ml_RL_31 : Cond.methodLink RL 31 yX9_bottle ∈ tb := tb_at 602 (by decide +kernel) (by decide +kernel)
theorem ml_RL_35 : Cond.methodLink RL 35 yX10_bottle ∈ tb := tb_at 1169 (by decide +kernel) (by decide +kernel)
theorem ml_RL_36 : Cond.methodLink RL 36 yX9_told ∈ tb := tb_at 659 (by decide +kernel) (by decide +kernel)
theorem ml_RL_39 : Cond.methodLink RL 39 yX10_told ∈ tb := tb_at 1197 (by decide +kernel) (by decide +kernel)
theorem ml_RL_40 : Cond.methodLink RL 40 yX9_shows ∈ tb := tb_at 720 (by decide +kernel) (by decide +kernel)
theorem ml_RL_43 : Cond.methodLink RL 43 yX10_shows ∈ tb := tb_at 1174 (by decide +kernel) (by decide +kernel)
theorem ml_RL_44 : Cond.methodLink RL 44 yX9_sale ∈ tb := tb_at 733 (by decide +kernel) (by decide +kernel)
theorem ml_RL_47 : Cond.methodLink RL 47 yX10_sale ∈ tb := tb_at 1344 (by decide +kernel) (by decide +kernel)
theorem kc_RL_48 : Cond.constantLong RL 48 (4294967295 : Int64) ∈ tb := tb_at 1480 (by decide +kernel) (by decide +kernel)
theorem ml_RL_50 : Cond.methodLink RL 50 yX9_feed ∈ tb := tb_at 745 (by decide +kernel) (by decide +kernel)
theorem ml_RL_54 : Cond.methodLink RL 54 yX10_feed ∈ tb := tb_at 1349 (by decide +kernel) (by decide +kernel)
theorem ml_RL_55 : Cond.methodLink RL 55 yX9_text ∈ tb := tb_at 749 (by decide +kernel) (by decide +kernel)
theorem ml_RL_59 : Cond.methodLink RL 59 yX10_text ∈ tb := tb_at 1354 (by decide +kernel) (by decide +kernel)
theorem ml_RL_60 : Cond.methodLink RL 60 yX9_force ∈ tb := tb_at 753 (by decide +kernel) (by decide +kernel)
theorem ml_RL_64 : Cond.methodLink RL 64 yX10_force ∈ tb := tb_at 1358 (by decide +kernel) (by decide +kernel)
theorem ml_RL_65 : Cond.methodLink RL 65 yX9_left ∈ tb := tb_at 757 (by decide +kernel) (by decide +kernel)
theorem ml_RL_68 : Cond.methodLink RL 68 yX10_left ∈ tb := tb_at 1362 (by decide +kernel) (by decide +kernel)
theorem ml_RL_69 : Cond.methodLink RL 69 yX9_odds ∈ tb := tb_at 766 (by decide +kernel) (by decide +kernel)
theorem ml_RL_73 : Cond.methodLink RL 73 yX10_odds ∈ tb := tb_at 1366 (by decide +kernel) (by decide +kernel)
theorem ml_RL_74 : Cond.methodLink RL 74 yX9_source ∈ tb := tb_at 779 (by decide +kernel) (by decide +kernel)
theorem ml_RL_77 : Cond.methodLink RL 77 yX10_source ∈ tb := tb_at 1374 (by decide +kernel) (by decide +kernel)
theorem ml_RL_78 : Cond.methodLink RL 78 yX9_worst ∈ tb := tb_at 787 (by decide +kernel) (by decide +kernel)
theorem ml_RL_81 : Cond.methodLink RL 81 yX10_worst ∈ tb := tb_at 1390 (by decide +kernel) (by decide +kernel)
theorem ml_RL_82 : Cond.methodLink RL 82 yX9_mix ∈ tb := tb_at 791 (by decide +kernel) (by decide +kernel)
theorem ml_RL_85 : Cond.methodLink RL 85 yX10_mix ∈ tb := tb_at 1394 (by decide +kernel) (by decide +kernel)
theorem ml_RL_86 : Cond.methodLink RL 86 yX9_said ∈ tb := tb_at 802 (by decide +kernel) (by decide +kernel)
theorem ml_RL_89 : Cond.methodLink RL 89 yX10_said ∈ tb := tb_at 1402 (by decide +kernel) (by decide +kernel)
theorem ml_RL_90 : Cond.methodLink RL 90 yX9_tongue ∈ tb := tb_at 819 (by decide +kernel) (by decide +kernel)
theorem ml_RL_93 : Cond.methodLink RL 93 yX10_tongue ∈ tb := tb_at 1409 (by decide +kernel) (by decide +kernel)
theorem ml_RL_94 : Cond.methodLink RL 94 yX9_opened ∈ tb := tb_at 823 (by decide +kernel) (by decide +kernel)
theorem ml_RL_97 : Cond.methodLink RL 97 yX10_opened ∈ tb := tb_at 1417 (by decide +kernel) (by decide +kernel)
theorem ml_RL_98 : Cond.methodLink RL 98 yX9_owed ∈ tb := tb_at 837 (by decide +kernel) (by decide +kernel)
theorem ml_RL_102 : Cond.methodLink RL 102 yX10_owed ∈ tb := tb_at 1421 (by decide +kernel) (by decide +kernel)
theorem ml_RL_103 : Cond.methodLink RL 103 yX9_chain ∈ tb := tb_at 841 (by decide +kernel) (by decide +kernel)
theorem ml_RL_106 : Cond.methodLink RL 106 yX10_chain ∈ tb := tb_at 1425 (by decide +kernel) (by decide +kernel)
theorem ml_RL_107 : Cond.methodLink RL 107 yX9_falls ∈ tb := tb_at 845 (by decide +kernel) (by decide +kernel)
theorem ml_RL_110 : Cond.methodLink RL 110 yX10_falls ∈ tb := tb_at 1429 (by decide +kernel) (by decide +kernel)
theorem ml_RL_111 : Cond.methodLink RL 111 yX9_saw ∈ tb := tb_at 858 (by decide +kernel) (by decide +kernel)
theorem ml_RL_114 : Cond.methodLink RL 114 yX10_saw ∈ tb := tb_at 1437 (by decide +kernel) (by decide +kernel)
theorem ml_RL_115 : Cond.methodLink RL 115 yX9_image ∈ tb := tb_at 862 (by decide +kernel) (by decide +kernel)
theorem ml_RL_118 : Cond.methodLink RL 118 yX10_image ∈ tb := tb_at 1441 (by decide +kernel) (by decide +kernel)
theorem ml_RL_119 : Cond.methodLink RL 119 yX9_back ∈ tb := tb_at 871 (by decide +kernel) (by decide +kernel)
theorem ml_RL_122 : Cond.methodLink RL 122 yX10_back ∈ tb := tb_at 1445 (by decide +kernel) (by decide +kernel)
theorem ml_RL_123 : Cond.methodLink RL 123 yX9_count ∈ tb := tb_at 883 (by decide +kernel) (by decide +kernel)
theorem ml_RL_126 : Cond.methodLink RL 126 yX10_count ∈ tb := tb_at 1449 (by decide +kernel) (by decide +kernel)
theorem ml_RL_127 : Cond.methodLink RL 127 yX9_sheet ∈ tb := tb_at 895 (by decide +kernel) (by decide +kernel)
theorem ml_RL_130 : Cond.methodLink RL 130 yX10_sheet ∈ tb := tb_at 1453 (by decide +kernel) (by decide +kernel)
theorem ml_RL_131 : Cond.methodLink RL 131 yX9_cell ∈ tb := tb_at 908 (by decide +kernel) (by decide +kernel)
theorem ml_RL_134 : Cond.methodLink RL 134 yX10_cell ∈ tb := tb_at 1460 (by decide +kernel) (by decide +kernel)
theorem ml_RL_135 : Cond.methodLink RL 135 yX9_copy ∈ tb := tb_at 916 (by decide +kernel) (by decide +kernel)
theorem ml_RL_139 : Cond.methodLink RL 139 yX10_copy ∈ tb := tb_at 1464 (by decide +kernel) (by decide +kernel)
theorem ml_RL_140 : Cond.methodLink RL 140 yX9_sales ∈ tb := tb_at 925 (by decide +kernel) (by decide +kernel)
theorem ml_RL_143 : Cond.methodLink RL 143 yX10_sales ∈ tb := tb_at 1468 (by decide +kernel) (by decide +kernel)
theorem ml_RL_144 : Cond.methodLink RL 144 yX9_taken ∈ tb := tb_at 930 (by decide +kernel) (by decide +kernel)
theorem ml_RL_147 : Cond.methodLink RL 147 yX10_taken ∈ tb := tb_at 1473 (by decide +kernel) (by decide +kernel)
theorem ml_RX0_3 : Cond.methodLink RX0 3 Lib.objectInit ∈ tb := tb_at 109 (by decide +kernel) (by decide +kernel)
theorem fl_RX0_9 : FL RX0 9 0 0 := ⟨RX0, TX0, 3, rfl, by decide, ut0, tb_at 113 (by decide +kernel) (by decide +kernel)⟩
theorem fp_RX0_9 : FP RX0 9 0 0 (.array .int) true := ⟨RX0, TX0, 3, tyX0, rfl, by decide, ut0, tb_at 113 (by decide +kernel) (by decide +kernel), tyX0_ok, nmX0, rfl, by decide +kernel, fun _ => rfl⟩
theorem fl_RX0_15 : FL RX0 15 0 1 := ⟨RX0, TX0, 3, rfl, by decide, ut0, tb_at 114 (by decide +kernel) (by decide +kernel)⟩
theorem fp_RX0_15 : FP RX0 15 0 1 (.array .int) true := ⟨RX0, TX0, 3, tyX0, rfl, by decide, ut0, tb_at 114 (by decide +kernel) (by decide +kernel), tyX0_ok, nmX0, rfl, by decide +kernel, fun _ => rfl⟩
theorem fl_RX0_18 : FL RX0 18 0 2 := ⟨RX0, TX0, 3, rfl, by decide, ut0, tb_at 115 (by decide +kernel) (by decide +kernel)⟩
theorem fp_RX0_18 : FP RX0 18 0 2 (.array .int) true := ⟨RX0, TX0, 3, tyX0, rfl, by decide, ut0, tb_at 115 (by decide +kernel) (by decide +kernel), tyX0_ok, nmX0, rfl, by decide +kernel, fun _ => rfl⟩
theorem ml_RX0_21 : Cond.methodLink RX0 21 yJ7_fill_53178 ∈ tb := tb_at 110 (by decide +kernel) (by decide +kernel)
theorem ml_RX0_27 : Cond.methodLink RX0 27 yX0_place ∈ tb := tb_at 597 (by decide +kernel) (by decide +kernel)
theorem fl_RX0_31 : FL RX0 31 1 3 := ⟨RX1, TX1, 9, rfl, by decide, ut1, tb_at 628 (by decide +kernel) (by decide +kernel)⟩
theorem fl_RX0_40 : FL RX0 40 1 1 := ⟨RX1, TX1, 9, rfl, by decide, ut1, tb_at 623 (by decide +kernel) (by decide +kernel)⟩
theorem fl_RX0_44 : FL RX0 44 8 1 := ⟨RX8, TX8, 6, rfl, by decide, ut8, tb_at 552 (by decide +kernel) (by decide +kernel)⟩
theorem ml_RX0_49 : Cond.methodLink RX0 49 ⟨"java/lang/System", "arraycopy", "(Ljava/lang/Object;ILjava/lang/Object;II)V"⟩ ∈ tb := tb_at 870 (by decide +kernel) (by decide +kernel)
theorem ml_RX1_3 : Cond.methodLink RX1 3 Lib.objectInit ∈ tb := tb_at 610 (by decide +kernel) (by decide +kernel)
theorem fl_RX1_9 : FL RX1 9 1 0 := ⟨RX1, TX1, 9, rfl, by decide, ut1, tb_at 620 (by decide +kernel) (by decide +kernel)⟩
theorem fp_RX1_9 : FP RX1 9 1 0 (.int) true := ⟨RX1, TX1, 9, tyX1, rfl, by decide, ut1, tb_at 620 (by decide +kernel) (by decide +kernel), tyX1_ok, nmX1, rfl, by decide +kernel, fun _ => rfl⟩
theorem fl_RX1_15 : FL RX1 15 1 1 := ⟨RX1, TX1, 9, rfl, by decide, ut1, tb_at 622 (by decide +kernel) (by decide +kernel)⟩
theorem fp_RX1_15 : FP RX1 15 1 1 (.object "OldBottles$Wine") true := ⟨RX1, TX1, 9, tyX1, rfl, by decide, ut1, tb_at 622 (by decide +kernel) (by decide +kernel), tyX1_ok, nmX1, rfl, by decide +kernel, fun _ => rfl⟩
theorem fl_RX1_19 : FL RX1 19 1 2 := ⟨RX1, TX1, 9, rfl, by decide, ut1, tb_at 625 (by decide +kernel) (by decide +kernel)⟩
theorem fp_RX1_19 : FP RX1 19 1 2 (.object "OldBottles$Wine") true := ⟨RX1, TX1, 9, tyX1, rfl, by decide, ut1, tb_at 625 (by decide +kernel) (by decide +kernel), tyX1_ok, nmX1, rfl, by decide +kernel, fun _ => rfl⟩
theorem fl_RX1_22 : FL RX1 22 8 3 := ⟨RX8, TX8, 6, rfl, by decide, ut8, tb_at 557 (by decide +kernel) (by decide +kernel)⟩
theorem ml_RX1_27 : Cond.methodLink RX1 27 yX1_shownParts ∈ tb := tb_at 611 (by decide +kernel) (by decide +kernel)
theorem fp_RX1_31 : FP RX1 31 1 3 (.int) true := ⟨RX1, TX1, 9, tyX1, rfl, by decide, ut1, tb_at 627 (by decide +kernel) (by decide +kernel), tyX1_ok, nmX1, rfl, by decide +kernel, fun _ => rfl⟩
theorem fl_RX1_34 : FL RX1 34 1 5 := ⟨RX1, TX1, 9, rfl, by decide, ut1, tb_at 632 (by decide +kernel) (by decide +kernel)⟩
theorem fp_RX1_34 : FP RX1 34 1 5 (.int) false := ⟨RX1, TX1, 9, tyX1, rfl, by decide, ut1, tb_at 632 (by decide +kernel) (by decide +kernel), tyX1_ok, nmX1, rfl, by decide +kernel, fun q => by cases q⟩
theorem ml_RX1_49 : Cond.methodLink RX1 49 yX8_taste ∈ tb := tb_at 728 (by decide +kernel) (by decide +kernel)
theorem ml_RX1_53 : Cond.methodLink RX1 53 yJ9_max_7cf53 ∈ tb := tb_at 732 (by decide +kernel) (by decide +kernel)
theorem fl_RX1_61 : FL RX1 61 1 4 := ⟨RX1, TX1, 9, rfl, by decide, ut1, tb_at 630 (by decide +kernel) (by decide +kernel)⟩
theorem fp_RX1_61 : FP RX1 61 1 4 (.int) false := ⟨RX1, TX1, 9, tyX1, rfl, by decide, ut1, tb_at 630 (by decide +kernel) (by decide +kernel), tyX1_ok, nmX1, rfl, by decide +kernel, fun q => by cases q⟩
theorem fl_RX1_64 : FL RX1 64 1 6 := ⟨RX1, TX1, 9, rfl, by decide, ut1, tb_at 634 (by decide +kernel) (by decide +kernel)⟩
theorem fp_RX1_64 : FP RX1 64 1 6 (.int) false := ⟨RX1, TX1, 9, tyX1, rfl, by decide, ut1, tb_at 634 (by decide +kernel) (by decide +kernel), tyX1_ok, nmX1, rfl, by decide +kernel, fun q => by cases q⟩
theorem fl_RX1_67 : FL RX1 67 1 7 := ⟨RX1, TX1, 9, rfl, by decide, ut1, tb_at 636 (by decide +kernel) (by decide +kernel)⟩
theorem fp_RX1_67 : FP RX1 67 1 7 (.int) false := ⟨RX1, TX1, 9, tyX1, rfl, by decide, ut1, tb_at 636 (by decide +kernel) (by decide +kernel), tyX1_ok, nmX1, rfl, by decide +kernel, fun q => by cases q⟩
theorem fp_RX1_70 : FP RX1 70 1 8 (.int) false := ⟨RX1, TX1, 9, tyX1, rfl, by decide, ut1, tb_at 638 (by decide +kernel) (by decide +kernel), tyX1_ok, nmX1, rfl, by decide +kernel, fun q => by cases q⟩
theorem ml_RX10_7 : Cond.methodLink RX10 7 Lib.objectInit ∈ tb := tb_at 939 (by decide +kernel) (by decide +kernel)
theorem fl_RX10_13 : FL RX10 13 10 1 := ⟨RX10, TX10, 60, rfl, by decide, ut10, tb_at 955 (by decide +kernel) (by decide +kernel)⟩
theorem fp_RX10_13 : FP RX10 13 10 1 (.array .int) true := ⟨RX10, TX10, 60, tyX10, rfl, by decide, ut10, tb_at 955 (by decide +kernel) (by decide +kernel), tyX10_ok, nmX10, rfl, by decide +kernel, fun _ => rfl⟩
theorem fl_RX10_17 : FL RX10 17 10 2 := ⟨RX10, TX10, 60, rfl, by decide, ut10, tb_at 956 (by decide +kernel) (by decide +kernel)⟩
theorem fp_RX10_17 : FP RX10 17 10 2 (.array .int) true := ⟨RX10, TX10, 60, tyX10, rfl, by decide, ut10, tb_at 956 (by decide +kernel) (by decide +kernel), tyX10_ok, nmX10, rfl, by decide +kernel, fun _ => rfl⟩
theorem fl_RX10_20 : FL RX10 20 10 5 := ⟨RX10, TX10, 60, rfl, by decide, ut10, tb_at 959 (by decide +kernel) (by decide +kernel)⟩
theorem fp_RX10_20 : FP RX10 20 10 5 (.array .int) true := ⟨RX10, TX10, 60, tyX10, rfl, by decide, ut10, tb_at 959 (by decide +kernel) (by decide +kernel), tyX10_ok, nmX10, rfl, by decide +kernel, fun _ => rfl⟩
theorem fl_RX10_23 : FL RX10 23 10 7 := ⟨RX10, TX10, 60, rfl, by decide, ut10, tb_at 961 (by decide +kernel) (by decide +kernel)⟩
theorem fp_RX10_23 : FP RX10 23 10 7 (.array .int) true := ⟨RX10, TX10, 60, tyX10, rfl, by decide, ut10, tb_at 961 (by decide +kernel) (by decide +kernel), tyX10_ok, nmX10, rfl, by decide +kernel, fun _ => rfl⟩
theorem fl_RX10_26 : FL RX10 26 10 8 := ⟨RX10, TX10, 60, rfl, by decide, ut10, tb_at 962 (by decide +kernel) (by decide +kernel)⟩
theorem fp_RX10_26 : FP RX10 26 10 8 (.array .int) true := ⟨RX10, TX10, 60, tyX10, rfl, by decide, ut10, tb_at 962 (by decide +kernel) (by decide +kernel), tyX10_ok, nmX10, rfl, by decide +kernel, fun _ => rfl⟩
theorem fl_RX10_29 : FL RX10 29 10 9 := ⟨RX10, TX10, 60, rfl, by decide, ut10, tb_at 963 (by decide +kernel) (by decide +kernel)⟩
theorem fp_RX10_29 : FP RX10 29 10 9 (.array .int) true := ⟨RX10, TX10, 60, tyX10, rfl, by decide, ut10, tb_at 963 (by decide +kernel) (by decide +kernel), tyX10_ok, nmX10, rfl, by decide +kernel, fun _ => rfl⟩
theorem fl_RX10_32 : FL RX10 32 10 10 := ⟨RX10, TX10, 60, rfl, by decide, ut10, tb_at 964 (by decide +kernel) (by decide +kernel)⟩
theorem fp_RX10_32 : FP RX10 32 10 10 (.array .int) true := ⟨RX10, TX10, 60, tyX10, rfl, by decide, ut10, tb_at 964 (by decide +kernel) (by decide +kernel), tyX10_ok, nmX10, rfl, by decide +kernel, fun _ => rfl⟩
theorem fl_RX10_35 : FL RX10 35 10 11 := ⟨RX10, TX10, 60, rfl, by decide, ut10, tb_at 965 (by decide +kernel) (by decide +kernel)⟩
theorem fp_RX10_35 : FP RX10 35 10 11 (.array .int) true := ⟨RX10, TX10, 60, tyX10, rfl, by decide, ut10, tb_at 965 (by decide +kernel) (by decide +kernel), tyX10_ok, nmX10, rfl, by decide +kernel, fun _ => rfl⟩
theorem fl_RX10_38 : FL RX10 38 10 13 := ⟨RX10, TX10, 60, rfl, by decide, ut10, tb_at 967 (by decide +kernel) (by decide +kernel)⟩
theorem fp_RX10_38 : FP RX10 38 10 13 (.array .int) true := ⟨RX10, TX10, 60, tyX10, rfl, by decide, ut10, tb_at 967 (by decide +kernel) (by decide +kernel), tyX10_ok, nmX10, rfl, by decide +kernel, fun _ => rfl⟩
theorem fl_RX10_41 : FL RX10 41 10 14 := ⟨RX10, TX10, 60, rfl, by decide, ut10, tb_at 968 (by decide +kernel) (by decide +kernel)⟩
theorem fp_RX10_41 : FP RX10 41 10 14 (.array .int) true := ⟨RX10, TX10, 60, tyX10, rfl, by decide, ut10, tb_at 968 (by decide +kernel) (by decide +kernel), tyX10_ok, nmX10, rfl, by decide +kernel, fun _ => rfl⟩
theorem fl_RX10_44 : FL RX10 44 10 15 := ⟨RX10, TX10, 60, rfl, by decide, ut10, tb_at 969 (by decide +kernel) (by decide +kernel)⟩
theorem fp_RX10_44 : FP RX10 44 10 15 (.array .int) true := ⟨RX10, TX10, 60, tyX10, rfl, by decide, ut10, tb_at 969 (by decide +kernel) (by decide +kernel), tyX10_ok, nmX10, rfl, by decide +kernel, fun _ => rfl⟩
theorem fl_RX10_47 : FL RX10 47 10 16 := ⟨RX10, TX10, 60, rfl, by decide, ut10, tb_at 970 (by decide +kernel) (by decide +kernel)⟩
theorem fp_RX10_47 : FP RX10 47 10 16 (.array .int) true := ⟨RX10, TX10, 60, tyX10, rfl, by decide, ut10, tb_at 970 (by decide +kernel) (by decide +kernel), tyX10_ok, nmX10, rfl, by decide +kernel, fun _ => rfl⟩
theorem fl_RX10_50 : FL RX10 50 10 17 := ⟨RX10, TX10, 60, rfl, by decide, ut10, tb_at 971 (by decide +kernel) (by decide +kernel)⟩
theorem fp_RX10_50 : FP RX10 50 10 17 (.array .int) true := ⟨RX10, TX10, 60, tyX10, rfl, by decide, ut10, tb_at 971 (by decide +kernel) (by decide +kernel), tyX10_ok, nmX10, rfl, by decide +kernel, fun _ => rfl⟩
theorem fl_RX10_53 : FL RX10 53 10 18 := ⟨RX10, TX10, 60, rfl, by decide, ut10, tb_at 972 (by decide +kernel) (by decide +kernel)⟩
theorem fp_RX10_53 : FP RX10 53 10 18 (.array .int) true := ⟨RX10, TX10, 60, tyX10, rfl, by decide, ut10, tb_at 972 (by decide +kernel) (by decide +kernel), tyX10_ok, nmX10, rfl, by decide +kernel, fun _ => rfl⟩
theorem fl_RX10_56 : FL RX10 56 10 19 := ⟨RX10, TX10, 60, rfl, by decide, ut10, tb_at 973 (by decide +kernel) (by decide +kernel)⟩
theorem fp_RX10_56 : FP RX10 56 10 19 (.array .int) true := ⟨RX10, TX10, 60, tyX10, rfl, by decide, ut10, tb_at 973 (by decide +kernel) (by decide +kernel), tyX10_ok, nmX10, rfl, by decide +kernel, fun _ => rfl⟩
theorem fl_RX10_59 : FL RX10 59 10 21 := ⟨RX10, TX10, 60, rfl, by decide, ut10, tb_at 975 (by decide +kernel) (by decide +kernel)⟩
theorem fp_RX10_59 : FP RX10 59 10 21 (.array .int) true := ⟨RX10, TX10, 60, tyX10, rfl, by decide, ut10, tb_at 975 (by decide +kernel) (by decide +kernel), tyX10_ok, nmX10, rfl, by decide +kernel, fun _ => rfl⟩
theorem fl_RX10_62 : FL RX10 62 10 22 := ⟨RX10, TX10, 60, rfl, by decide, ut10, tb_at 976 (by decide +kernel) (by decide +kernel)⟩
theorem fp_RX10_62 : FP RX10 62 10 22 (.array .int) true := ⟨RX10, TX10, 60, tyX10, rfl, by decide, ut10, tb_at 976 (by decide +kernel) (by decide +kernel), tyX10_ok, nmX10, rfl, by decide +kernel, fun _ => rfl⟩
theorem fl_RX10_65 : FL RX10 65 10 23 := ⟨RX10, TX10, 60, rfl, by decide, ut10, tb_at 977 (by decide +kernel) (by decide +kernel)⟩
theorem fp_RX10_65 : FP RX10 65 10 23 (.array .int) true := ⟨RX10, TX10, 60, tyX10, rfl, by decide, ut10, tb_at 977 (by decide +kernel) (by decide +kernel), tyX10_ok, nmX10, rfl, by decide +kernel, fun _ => rfl⟩
theorem fl_RX10_68 : FL RX10 68 10 24 := ⟨RX10, TX10, 60, rfl, by decide, ut10, tb_at 978 (by decide +kernel) (by decide +kernel)⟩
theorem fp_RX10_68 : FP RX10 68 10 24 (.array .int) true := ⟨RX10, TX10, 60, tyX10, rfl, by decide, ut10, tb_at 978 (by decide +kernel) (by decide +kernel), tyX10_ok, nmX10, rfl, by decide +kernel, fun _ => rfl⟩
theorem fl_RX10_71 : FL RX10 71 10 25 := ⟨RX10, TX10, 60, rfl, by decide, ut10, tb_at 979 (by decide +kernel) (by decide +kernel)⟩
theorem fp_RX10_71 : FP RX10 71 10 25 (.array .int) true := ⟨RX10, TX10, 60, tyX10, rfl, by decide, ut10, tb_at 979 (by decide +kernel) (by decide +kernel), tyX10_ok, nmX10, rfl, by decide +kernel, fun _ => rfl⟩
theorem fl_RX10_74 : FL RX10 74 10 42 := ⟨RX10, TX10, 60, rfl, by decide, ut10, tb_at 996 (by decide +kernel) (by decide +kernel)⟩
theorem fp_RX10_74 : FP RX10 74 10 42 (.array .int) true := ⟨RX10, TX10, 60, tyX10, rfl, by decide, ut10, tb_at 996 (by decide +kernel) (by decide +kernel), tyX10_ok, nmX10, rfl, by decide +kernel, fun _ => rfl⟩
theorem fl_RX10_77 : FL RX10 77 10 43 := ⟨RX10, TX10, 60, rfl, by decide, ut10, tb_at 997 (by decide +kernel) (by decide +kernel)⟩
theorem fp_RX10_77 : FP RX10 77 10 43 (.array .int) true := ⟨RX10, TX10, 60, tyX10, rfl, by decide, ut10, tb_at 997 (by decide +kernel) (by decide +kernel), tyX10_ok, nmX10, rfl, by decide +kernel, fun _ => rfl⟩
theorem fl_RX10_80 : FL RX10 80 10 44 := ⟨RX10, TX10, 60, rfl, by decide, ut10, tb_at 998 (by decide +kernel) (by decide +kernel)⟩
theorem fp_RX10_80 : FP RX10 80 10 44 (.array .int) true := ⟨RX10, TX10, 60, tyX10, rfl, by decide, ut10, tb_at 998 (by decide +kernel) (by decide +kernel), tyX10_ok, nmX10, rfl, by decide +kernel, fun _ => rfl⟩
theorem fl_RX10_83 : FL RX10 83 10 45 := ⟨RX10, TX10, 60, rfl, by decide, ut10, tb_at 999 (by decide +kernel) (by decide +kernel)⟩
theorem fp_RX10_83 : FP RX10 83 10 45 (.array .int) true := ⟨RX10, TX10, 60, tyX10, rfl, by decide, ut10, tb_at 999 (by decide +kernel) (by decide +kernel), tyX10_ok, nmX10, rfl, by decide +kernel, fun _ => rfl⟩
theorem fl_RX10_86 : FL RX10 86 10 46 := ⟨RX10, TX10, 60, rfl, by decide, ut10, tb_at 1000 (by decide +kernel) (by decide +kernel)⟩
theorem fp_RX10_86 : FP RX10 86 10 46 (.array .int) true := ⟨RX10, TX10, 60, tyX10, rfl, by decide, ut10, tb_at 1000 (by decide +kernel) (by decide +kernel), tyX10_ok, nmX10, rfl, by decide +kernel, fun _ => rfl⟩
theorem fl_RX10_89 : FL RX10 89 10 47 := ⟨RX10, TX10, 60, rfl, by decide, ut10, tb_at 1001 (by decide +kernel) (by decide +kernel)⟩
theorem fp_RX10_89 : FP RX10 89 10 47 (.array .int) true := ⟨RX10, TX10, 60, tyX10, rfl, by decide, ut10, tb_at 1001 (by decide +kernel) (by decide +kernel), tyX10_ok, nmX10, rfl, by decide +kernel, fun _ => rfl⟩
theorem fl_RX10_92 : FL RX10 92 10 48 := ⟨RX10, TX10, 60, rfl, by decide, ut10, tb_at 1002 (by decide +kernel) (by decide +kernel)⟩
theorem fp_RX10_92 : FP RX10 92 10 48 (.array .int) true := ⟨RX10, TX10, 60, tyX10, rfl, by decide, ut10, tb_at 1002 (by decide +kernel) (by decide +kernel), tyX10_ok, nmX10, rfl, by decide +kernel, fun _ => rfl⟩
theorem fl_RX10_95 : FL RX10 95 10 49 := ⟨RX10, TX10, 60, rfl, by decide, ut10, tb_at 1003 (by decide +kernel) (by decide +kernel)⟩
theorem fp_RX10_95 : FP RX10 95 10 49 (.array .int) true := ⟨RX10, TX10, 60, tyX10, rfl, by decide, ut10, tb_at 1003 (by decide +kernel) (by decide +kernel), tyX10_ok, nmX10, rfl, by decide +kernel, fun _ => rfl⟩
theorem fl_RX10_98 : FL RX10 98 10 50 := ⟨RX10, TX10, 60, rfl, by decide, ut10, tb_at 1004 (by decide +kernel) (by decide +kernel)⟩
theorem fp_RX10_98 : FP RX10 98 10 50 (.array .int) true := ⟨RX10, TX10, 60, tyX10, rfl, by decide, ut10, tb_at 1004 (by decide +kernel) (by decide +kernel), tyX10_ok, nmX10, rfl, by decide +kernel, fun _ => rfl⟩
theorem fl_RX10_101 : FL RX10 101 10 51 := ⟨RX10, TX10, 60, rfl, by decide, ut10, tb_at 1005 (by decide +kernel) (by decide +kernel)⟩
theorem fp_RX10_101 : FP RX10 101 10 51 (.array .int) true := ⟨RX10, TX10, 60, tyX10, rfl, by decide, ut10, tb_at 1005 (by decide +kernel) (by decide +kernel), tyX10_ok, nmX10, rfl, by decide +kernel, fun _ => rfl⟩
theorem fl_RX10_104 : FL RX10 104 10 56 := ⟨RX10, TX10, 60, rfl, by decide, ut10, tb_at 1010 (by decide +kernel) (by decide +kernel)⟩
theorem fp_RX10_104 : FP RX10 104 10 56 (.array .boolean) true := ⟨RX10, TX10, 60, tyX10, rfl, by decide, ut10, tb_at 1010 (by decide +kernel) (by decide +kernel), tyX10_ok, nmX10, rfl, by decide +kernel, fun _ => rfl⟩
theorem fl_RX10_108 : FL RX10 108 10 57 := ⟨RX10, TX10, 60, rfl, by decide, ut10, tb_at 1011 (by decide +kernel) (by decide +kernel)⟩
theorem fp_RX10_108 : FP RX10 108 10 57 (.array .int) true := ⟨RX10, TX10, 60, tyX10, rfl, by decide, ut10, tb_at 1011 (by decide +kernel) (by decide +kernel), tyX10_ok, nmX10, rfl, by decide +kernel, fun _ => rfl⟩
theorem fl_RX10_111 : FL RX10 111 10 58 := ⟨RX10, TX10, 60, rfl, by decide, ut10, tb_at 1012 (by decide +kernel) (by decide +kernel)⟩
theorem fp_RX10_111 : FP RX10 111 10 58 (.array .int) true := ⟨RX10, TX10, 60, tyX10, rfl, by decide, ut10, tb_at 1012 (by decide +kernel) (by decide +kernel), tyX10_ok, nmX10, rfl, by decide +kernel, fun _ => rfl⟩
theorem fl_RX10_114 : FL RX10 114 10 59 := ⟨RX10, TX10, 60, rfl, by decide, ut10, tb_at 1013 (by decide +kernel) (by decide +kernel)⟩
theorem fp_RX10_114 : FP RX10 114 10 59 (.array .int) true := ⟨RX10, TX10, 60, tyX10, rfl, by decide, ut10, tb_at 1013 (by decide +kernel) (by decide +kernel), tyX10_ok, nmX10, rfl, by decide +kernel, fun _ => rfl⟩
theorem kc_RX10_117 : Cond.constantLong RX10 117 (7237132191923200609 : Int64) ∈ tb := tb_at 940 (by decide +kernel) (by decide +kernel)
theorem ml_RX10_119 : Cond.methodLink RX10 119 yX10_spell ∈ tb := tb_at 941 (by decide +kernel) (by decide +kernel)
theorem kc_RX10_123 : Cond.constantLong RX10 123 (8246970707946385440 : Int64) ∈ tb := tb_at 946 (by decide +kernel) (by decide +kernel)
theorem kc_RX10_125 : Cond.constantLong RX10 125 (3107606219852884512 : Int64) ∈ tb := tb_at 947 (by decide +kernel) (by decide +kernel)
theorem kc_RX10_127 : Cond.constantLong RX10 127 (3828107101438308384 : Int64) ∈ tb := tb_at 948 (by decide +kernel) (by decide +kernel)
theorem kc_RX10_129 : Cond.constantLong RX10 129 (4260528884189193504 : Int64) ∈ tb := tb_at 949 (by decide +kernel) (by decide +kernel)
theorem kc_RX10_131 : Cond.constantLong RX10 131 (7881691208369381491 : Int64) ∈ tb := tb_at 950 (by decide +kernel) (by decide +kernel)
theorem kc_RX10_133 : Cond.constantLong RX10 133 (8028902325003235872 : Int64) ∈ tb := tb_at 951 (by decide +kernel) (by decide +kernel)
theorem kc_RX10_135 : Cond.constantLong RX10 135 (3107537825921252128 : Int64) ∈ tb := tb_at 952 (by decide +kernel) (by decide +kernel)
theorem kc_RX10_137 : Cond.constantLong RX10 137 (8030029659262496800 : Int64) ∈ tb := tb_at 953 (by decide +kernel) (by decide +kernel)
theorem kc_RX10_139 : Cond.constantLong RX10 139 (3107606219852888864 : Int64) ∈ tb := tb_at 954 (by decide +kernel) (by decide +kernel)
theorem fl_RX10_141 : FL RX10 141 10 3 := ⟨RX10, TX10, 60, rfl, by decide, ut10, tb_at 957 (by decide +kernel) (by decide +kernel)⟩
theorem fp_RX10_141 : FP RX10 141 10 3 (.int) false := ⟨RX10, TX10, 60, tyX10, rfl, by decide, ut10, tb_at 957 (by decide +kernel) (by decide +kernel), tyX10_ok, nmX10, rfl, by decide +kernel, fun q => by cases q⟩
theorem kc_RX10_144 : Cond.constantLong RX10 144 (255 : Int64) ∈ tb := tb_at 945 (by decide +kernel) (by decide +kernel)
theorem fl_RX10_146 : FL RX10 146 10 12 := ⟨RX10, TX10, 60, rfl, by decide, ut10, tb_at 966 (by decide +kernel) (by decide +kernel)⟩
theorem fp_RX10_146 : FP RX10 146 10 12 (.int) false := ⟨RX10, TX10, 60, tyX10, rfl, by decide, ut10, tb_at 966 (by decide +kernel) (by decide +kernel), tyX10_ok, nmX10, rfl, by decide +kernel, fun q => by cases q⟩
theorem ml_RX10_149 : Cond.methodLink RX10 149 yX10_in ∈ tb := tb_at 1141 (by decide +kernel) (by decide +kernel)
theorem kc_RX10_153 : Cond.constantLong RX10 153 (333 : Int64) ∈ tb := tb_at 1148 (by decide +kernel) (by decide +kernel)
theorem kc_RX10_155 : Cond.constantLong RX10 155 (99 : Int64) ∈ tb := tb_at 1140 (by decide +kernel) (by decide +kernel)
theorem kc_RX10_157 : Cond.constantLong RX10 157 (999 : Int64) ∈ tb := tb_at 1144 (by decide +kernel) (by decide +kernel)
theorem ml_RX10_159 : Cond.methodLink RX10 159 yX10_areParts ∈ tb := tb_at 1145 (by decide +kernel) (by decide +kernel)
theorem kc_RX10_163 : Cond.constantLong RX10 163 (999999 : Int64) ∈ tb := tb_at 1149 (by decide +kernel) (by decide +kernel)
theorem ml_RX10_165 : Cond.methodLink RX10 165 yX10_isWine ∈ tb := tb_at 1154 (by decide +kernel) (by decide +kernel)
theorem kc_RX10_168 : Cond.constantLong RX10 168 (2 : Int64) ∈ tb := tb_at 1162 (by decide +kernel) (by decide +kernel)
theorem kc_RX10_170 : Cond.constantLong RX10 170 (3 : Int64) ∈ tb := tb_at 1163 (by decide +kernel) (by decide +kernel)
theorem kc_RX10_172 : Cond.constantLong RX10 172 (100 : Int64) ∈ tb := tb_at 1168 (by decide +kernel) (by decide +kernel)
theorem fl_RX10_174 : FL RX10 174 10 20 := ⟨RX10, TX10, 60, rfl, by decide, ut10, tb_at 974 (by decide +kernel) (by decide +kernel)⟩
theorem fp_RX10_174 : FP RX10 174 10 20 (.int) false := ⟨RX10, TX10, 60, tyX10, rfl, by decide, ut10, tb_at 974 (by decide +kernel) (by decide +kernel), tyX10_ok, nmX10, rfl, by decide +kernel, fun q => by cases q⟩
theorem kc_RX10_177 : Cond.constantLong RX10 177 (5 : Int64) ∈ tb := tb_at 1173 (by decide +kernel) (by decide +kernel)
theorem ml_RX10_179 : Cond.methodLink RX10 179 yX10_partOf ∈ tb := tb_at 1186 (by decide +kernel) (by decide +kernel)
theorem ml_RX10_183 : Cond.methodLink RX10 183 yX10_tasteOf ∈ tb := tb_at 1193 (by decide +kernel) (by decide +kernel)
theorem ml_RX10_186 : Cond.methodLink RX10 186 yX10_isBottle ∈ tb := tb_at 1178 (by decide +kernel) (by decide +kernel)
theorem ml_RX10_189 : Cond.methodLink RX10 189 yX10_showsOf ∈ tb := tb_at 1182 (by decide +kernel) (by decide +kernel)
theorem ml_RX10_192 : Cond.methodLink RX10 192 yX10_tastesOf ∈ tb := tb_at 1189 (by decide +kernel) (by decide +kernel)
theorem ml_RX10_195 : Cond.methodLink RX10 195 yX10_bars ∈ tb := tb_at 1205 (by decide +kernel) (by decide +kernel)
theorem ml_RX10_199 : Cond.methodLink RX10 199 yX10_isOdd ∈ tb := tb_at 1213 (by decide +kernel) (by decide +kernel)
theorem ml_RX10_202 : Cond.methodLink RX10 202 yX10_barsOf ∈ tb := tb_at 1201 (by decide +kernel) (by decide +kernel)
theorem ml_RX10_206 : Cond.methodLink RX10 206 yX10_oddsOf ∈ tb := tb_at 1209 (by decide +kernel) (by decide +kernel)
theorem ml_RX10_209 : Cond.methodLink RX10 209 yX10_isBarred ∈ tb := tb_at 1217 (by decide +kernel) (by decide +kernel)
theorem ml_RX10_212 : Cond.methodLink RX10 212 yX10_gapOf ∈ tb := tb_at 1221 (by decide +kernel) (by decide +kernel)
theorem ml_RX10_215 : Cond.methodLink RX10 215 yX10_weightOf ∈ tb := tb_at 1229 (by decide +kernel) (by decide +kernel)
theorem ml_RX10_218 : Cond.methodLink RX10 218 yX10_ownerOf ∈ tb := tb_at 1232 (by decide +kernel) (by decide +kernel)
theorem ml_RX10_221 : Cond.methodLink RX10 221 yX10_doubtOf ∈ tb := tb_at 1236 (by decide +kernel) (by decide +kernel)
theorem ml_RX10_224 : Cond.methodLink RX10 224 yX10_priceOf ∈ tb := tb_at 1336 (by decide +kernel) (by decide +kernel)
theorem ml_RX10_227 : Cond.methodLink RX10 227 yX10_openOf ∈ tb := tb_at 1340 (by decide +kernel) (by decide +kernel)
theorem kc_RX10_230 : Cond.constantLong RX10 230 (9999 : Int64) ∈ tb := tb_at 1348 (by decide +kernel) (by decide +kernel)
theorem fl_RX10_232 : FL RX10 232 10 26 := ⟨RX10, TX10, 60, rfl, by decide, ut10, tb_at 980 (by decide +kernel) (by decide +kernel)⟩
theorem fp_RX10_232 : FP RX10 232 10 26 (.int) false := ⟨RX10, TX10, 60, tyX10, rfl, by decide, ut10, tb_at 980 (by decide +kernel) (by decide +kernel), tyX10_ok, nmX10, rfl, by decide +kernel, fun q => by cases q⟩
theorem ml_RX10_235 : Cond.methodLink RX10 235 yX10_lastOf ∈ tb := tb_at 1225 (by decide +kernel) (by decide +kernel)
theorem kc_RX10_238 : Cond.constantLong RX10 238 (8 : Int64) ∈ tb := tb_at 1353 (by decide +kernel) (by decide +kernel)
theorem fl_RX10_240 : FL RX10 240 10 6 := ⟨RX10, TX10, 60, rfl, by decide, ut10, tb_at 960 (by decide +kernel) (by decide +kernel)⟩
theorem fp_RX10_240 : FP RX10 240 10 6 (.int) false := ⟨RX10, TX10, 60, tyX10, rfl, by decide, ut10, tb_at 960 (by decide +kernel) (by decide +kernel), tyX10_ok, nmX10, rfl, by decide +kernel, fun q => by cases q⟩
theorem fl_RX10_243 : FL RX10 243 10 28 := ⟨RX10, TX10, 60, rfl, by decide, ut10, tb_at 982 (by decide +kernel) (by decide +kernel)⟩
theorem fp_RX10_243 : FP RX10 243 10 28 (.int) false := ⟨RX10, TX10, 60, tyX10, rfl, by decide, ut10, tb_at 982 (by decide +kernel) (by decide +kernel), tyX10_ok, nmX10, rfl, by decide +kernel, fun q => by cases q⟩
theorem fl_RX10_246 : FL RX10 246 10 27 := ⟨RX10, TX10, 60, rfl, by decide, ut10, tb_at 981 (by decide +kernel) (by decide +kernel)⟩
theorem fp_RX10_246 : FP RX10 246 10 27 (.int) false := ⟨RX10, TX10, 60, tyX10, rfl, by decide, ut10, tb_at 981 (by decide +kernel) (by decide +kernel), tyX10_ok, nmX10, rfl, by decide +kernel, fun q => by cases q⟩
theorem fl_RX10_249 : FL RX10 249 10 32 := ⟨RX10, TX10, 60, rfl, by decide, ut10, tb_at 986 (by decide +kernel) (by decide +kernel)⟩
theorem fp_RX10_249 : FP RX10 249 10 32 (.int) false := ⟨RX10, TX10, 60, tyX10, rfl, by decide, ut10, tb_at 986 (by decide +kernel) (by decide +kernel), tyX10_ok, nmX10, rfl, by decide +kernel, fun q => by cases q⟩
theorem ml_RX10_252 : Cond.methodLink RX10 252 yX10_byteAt ∈ tb := tb_at 1259 (by decide +kernel) (by decide +kernel)
theorem fl_RX10_255 : FL RX10 255 10 30 := ⟨RX10, TX10, 60, rfl, by decide, ut10, tb_at 984 (by decide +kernel) (by decide +kernel)⟩
theorem fp_RX10_255 : FP RX10 255 10 30 (.int) false := ⟨RX10, TX10, 60, tyX10, rfl, by decide, ut10, tb_at 984 (by decide +kernel) (by decide +kernel), tyX10_ok, nmX10, rfl, by decide +kernel, fun q => by cases q⟩
theorem fl_RX10_258 : FL RX10 258 10 29 := ⟨RX10, TX10, 60, rfl, by decide, ut10, tb_at 983 (by decide +kernel) (by decide +kernel)⟩
theorem fp_RX10_258 : FP RX10 258 10 29 (.int) false := ⟨RX10, TX10, 60, tyX10, rfl, by decide, ut10, tb_at 983 (by decide +kernel) (by decide +kernel), tyX10_ok, nmX10, rfl, by decide +kernel, fun q => by cases q⟩
theorem kc_RX10_261 : Cond.constantLong RX10 261 (97 : Int64) ∈ tb := tb_at 1263 (by decide +kernel) (by decide +kernel)
theorem kc_RX10_263 : Cond.constantLong RX10 263 (122 : Int64) ∈ tb := tb_at 1264 (by decide +kernel) (by decide +kernel)
theorem fl_RX10_265 : FL RX10 265 10 31 := ⟨RX10, TX10, 60, rfl, by decide, ut10, tb_at 985 (by decide +kernel) (by decide +kernel)⟩
theorem fp_RX10_265 : FP RX10 265 10 31 (.long) false := ⟨RX10, TX10, 60, tyX10, rfl, by decide, ut10, tb_at 985 (by decide +kernel) (by decide +kernel), tyX10_ok, nmX10, rfl, by decide +kernel, fun q => by cases q⟩
theorem kc_RX10_269 : Cond.constantLong RX10 269 (27 : Int64) ∈ tb := tb_at 1265 (by decide +kernel) (by decide +kernel)
theorem kc_RX10_271 : Cond.constantLong RX10 271 (96 : Int64) ∈ tb := tb_at 1266 (by decide +kernel) (by decide +kernel)
theorem kc_RX10_273 : Cond.constantLong RX10 273 (-1 : Int64) ∈ tb := tb_at 1267 (by decide +kernel) (by decide +kernel)
theorem kc_RX10_275 : Cond.constantLong RX10 275 (48 : Int64) ∈ tb := tb_at 1268 (by decide +kernel) (by decide +kernel)
theorem kc_RX10_277 : Cond.constantLong RX10 277 (57 : Int64) ∈ tb := tb_at 1269 (by decide +kernel) (by decide +kernel)
theorem kc_RX10_279 : Cond.constantLong RX10 279 (10 : Int64) ∈ tb := tb_at 1270 (by decide +kernel) (by decide +kernel)
theorem fl_RX10_281 : FL RX10 281 10 34 := ⟨RX10, TX10, 60, rfl, by decide, ut10, tb_at 988 (by decide +kernel) (by decide +kernel)⟩
theorem fp_RX10_281 : FP RX10 281 10 34 (.boolean) false := ⟨RX10, TX10, 60, tyX10, rfl, by decide, ut10, tb_at 988 (by decide +kernel) (by decide +kernel), tyX10_ok, nmX10, rfl, by decide +kernel, fun q => by cases q⟩
theorem fl_RX10_285 : FL RX10 285 10 35 := ⟨RX10, TX10, 60, rfl, by decide, ut10, tb_at 989 (by decide +kernel) (by decide +kernel)⟩
theorem fp_RX10_285 : FP RX10 285 10 35 (.int) false := ⟨RX10, TX10, 60, tyX10, rfl, by decide, ut10, tb_at 989 (by decide +kernel) (by decide +kernel), tyX10_ok, nmX10, rfl, by decide +kernel, fun q => by cases q⟩
theorem fl_RX10_288 : FL RX10 288 10 33 := ⟨RX10, TX10, 60, rfl, by decide, ut10, tb_at 987 (by decide +kernel) (by decide +kernel)⟩
theorem fp_RX10_288 : FP RX10 288 10 33 (.int) false := ⟨RX10, TX10, 60, tyX10, rfl, by decide, ut10, tb_at 987 (by decide +kernel) (by decide +kernel), tyX10_ok, nmX10, rfl, by decide +kernel, fun q => by cases q⟩
theorem ml_RX10_291 : Cond.methodLink RX10 291 yX10_fail ∈ tb := tb_at 1280 (by decide +kernel) (by decide +kernel)
theorem ml_RX10_294 : Cond.methodLink RX10 294 yX10_next ∈ tb := tb_at 1255 (by decide +kernel) (by decide +kernel)
theorem kc_RX10_297 : Cond.constantLong RX10 297 (40600 : Int64) ∈ tb := tb_at 1321 (by decide +kernel) (by decide +kernel)
theorem ml_RX10_299 : Cond.methodLink RX10 299 yX10_isWord ∈ tb := tb_at 1276 (by decide +kernel) (by decide +kernel)
theorem fl_RX10_303 : FL RX10 303 10 36 := ⟨RX10, TX10, 60, rfl, by decide, ut10, tb_at 990 (by decide +kernel) (by decide +kernel)⟩
theorem fp_RX10_303 : FP RX10 303 10 36 (.int) false := ⟨RX10, TX10, 60, tyX10, rfl, by decide, ut10, tb_at 990 (by decide +kernel) (by decide +kernel), tyX10_ok, nmX10, rfl, by decide +kernel, fun q => by cases q⟩
theorem kc_RX10_306 : Cond.constantLong RX10 306 (11047 : Int64) ∈ tb := tb_at 1322 (by decide +kernel) (by decide +kernel)
theorem fl_RX10_308 : FL RX10 308 10 37 := ⟨RX10, TX10, 60, rfl, by decide, ut10, tb_at 991 (by decide +kernel) (by decide +kernel)⟩
theorem fp_RX10_308 : FP RX10 308 10 37 (.int) false := ⟨RX10, TX10, 60, tyX10, rfl, by decide, ut10, tb_at 991 (by decide +kernel) (by decide +kernel), tyX10_ok, nmX10, rfl, by decide +kernel, fun q => by cases q⟩
theorem kc_RX10_311 : Cond.constantLong RX10 311 (5146 : Int64) ∈ tb := tb_at 1323 (by decide +kernel) (by decide +kernel)
theorem fl_RX10_313 : FL RX10 313 10 38 := ⟨RX10, TX10, 60, rfl, by decide, ut10, tb_at 992 (by decide +kernel) (by decide +kernel)⟩
theorem fp_RX10_313 : FP RX10 313 10 38 (.int) false := ⟨RX10, TX10, 60, tyX10, rfl, by decide, ut10, tb_at 992 (by decide +kernel) (by decide +kernel), tyX10_ok, nmX10, rfl, by decide +kernel, fun q => by cases q⟩
theorem kc_RX10_316 : Cond.constantLong RX10 316 (495765 : Int64) ∈ tb := tb_at 1324 (by decide +kernel) (by decide +kernel)
theorem fl_RX10_318 : FL RX10 318 10 39 := ⟨RX10, TX10, 60, rfl, by decide, ut10, tb_at 993 (by decide +kernel) (by decide +kernel)⟩
theorem fp_RX10_318 : FP RX10 318 10 39 (.int) false := ⟨RX10, TX10, 60, tyX10, rfl, by decide, ut10, tb_at 993 (by decide +kernel) (by decide +kernel), tyX10_ok, nmX10, rfl, by decide +kernel, fun q => by cases q⟩
theorem kc_RX10_321 : Cond.constantLong RX10 321 (256721 : Int64) ∈ tb := tb_at 1325 (by decide +kernel) (by decide +kernel)
theorem fl_RX10_323 : FL RX10 323 10 40 := ⟨RX10, TX10, 60, rfl, by decide, ut10, tb_at 994 (by decide +kernel) (by decide +kernel)⟩
theorem fp_RX10_323 : FP RX10 323 10 40 (.int) false := ⟨RX10, TX10, 60, tyX10, rfl, by decide, ut10, tb_at 994 (by decide +kernel) (by decide +kernel), tyX10_ok, nmX10, rfl, by decide +kernel, fun q => by cases q⟩
theorem kc_RX10_326 : Cond.constantLong RX10 326 (385240 : Int64) ∈ tb := tb_at 1326 (by decide +kernel) (by decide +kernel)
theorem fl_RX10_328 : FL RX10 328 10 41 := ⟨RX10, TX10, 60, rfl, by decide, ut10, tb_at 995 (by decide +kernel) (by decide +kernel)⟩
theorem fp_RX10_328 : FP RX10 328 10 41 (.int) false := ⟨RX10, TX10, 60, tyX10, rfl, by decide, ut10, tb_at 995 (by decide +kernel) (by decide +kernel), tyX10_ok, nmX10, rfl, by decide +kernel, fun q => by cases q⟩
theorem ml_RX10_331 : Cond.methodLink RX10 331 yX10_isSign ∈ tb := tb_at 1313 (by decide +kernel) (by decide +kernel)
theorem ml_RX10_334 : Cond.methodLink RX10 334 yX10_opens ∈ tb := tb_at 1297 (by decide +kernel) (by decide +kernel)
theorem ml_RX10_337 : Cond.methodLink RX10 337 yX10_one ∈ tb := tb_at 1309 (by decide +kernel) (by decide +kernel)
theorem ml_RX10_341 : Cond.methodLink RX10 341 yX10_either ∈ tb := tb_at 1284 (by decide +kernel) (by decide +kernel)
theorem ml_RX10_344 : Cond.methodLink RX10 344 yX10_name ∈ tb := tb_at 1317 (by decide +kernel) (by decide +kernel)
theorem ml_RX10_347 : Cond.methodLink RX10 347 yX10_term ∈ tb := tb_at 1305 (by decide +kernel) (by decide +kernel)
theorem kc_RX10_350 : Cond.constantLong RX10 350 (43 : Int64) ∈ tb := tb_at 1327 (by decide +kernel) (by decide +kernel)
theorem kc_RX10_352 : Cond.constantLong RX10 352 (10631 : Int64) ∈ tb := tb_at 1296 (by decide +kernel) (by decide +kernel)
theorem ml_RX10_354 : Cond.methodLink RX10 354 yX10_not ∈ tb := tb_at 1292 (by decide +kernel) (by decide +kernel)
theorem ml_RX10_357 : Cond.methodLink RX10 357 yX10_added ∈ tb := tb_at 1301 (by decide +kernel) (by decide +kernel)
theorem kc_RX10_360 : Cond.constantLong RX10 360 (60 : Int64) ∈ tb := tb_at 1328 (by decide +kernel) (by decide +kernel)
theorem kc_RX10_362 : Cond.constantLong RX10 362 (1111 : Int64) ∈ tb := tb_at 1329 (by decide +kernel) (by decide +kernel)
theorem ml_RX10_364 : Cond.methodLink RX10 364 yX10_both ∈ tb := tb_at 1288 (by decide +kernel) (by decide +kernel)
theorem kc_RX10_367 : Cond.constantLong RX10 367 (423 : Int64) ∈ tb := tb_at 1330 (by decide +kernel) (by decide +kernel)
theorem kc_RX10_369 : Cond.constantLong RX10 369 (2436392 : Int64) ∈ tb := tb_at 1271 (by decide +kernel) (by decide +kernel)
theorem ml_RX10_371 : Cond.methodLink RX10 371 yX10_part ∈ tb := tb_at 1272 (by decide +kernel) (by decide +kernel)
theorem kc_RX10_375 : Cond.constantLong RX10 375 (8863997 : Int64) ∈ tb := tb_at 1331 (by decide +kernel) (by decide +kernel)
theorem kc_RX10_377 : Cond.constantLong RX10 377 (307058 : Int64) ∈ tb := tb_at 1332 (by decide +kernel) (by decide +kernel)
theorem ml_RX10_379 : Cond.methodLink RX10 379 yX10_read ∈ tb := tb_at 1251 (by decide +kernel) (by decide +kernel)
theorem fl_RX10_382 : FL RX10 382 10 4 := ⟨RX10, TX10, 60, rfl, by decide, ut10, tb_at 958 (by decide +kernel) (by decide +kernel)⟩
theorem fp_RX10_382 : FP RX10 382 10 4 (.int) false := ⟨RX10, TX10, 60, tyX10, rfl, by decide, ut10, tb_at 958 (by decide +kernel) (by decide +kernel), tyX10_ok, nmX10, rfl, by decide +kernel, fun q => by cases q⟩
theorem ml_RX10_385 : Cond.methodLink RX10 385 yX10_bitsOf ∈ tb := tb_at 1244 (by decide +kernel) (by decide +kernel)
theorem ml_RX10_388 : Cond.methodLink RX10 388 yX10_soldOf ∈ tb := tb_at 1247 (by decide +kernel) (by decide +kernel)
theorem ml_RX10_391 : Cond.methodLink RX10 391 yX10_saysOf ∈ tb := tb_at 1240 (by decide +kernel) (by decide +kernel)
theorem ml_RX10_394 : Cond.methodLink RX10 394 yX10_within ∈ tb := tb_at 1333 (by decide +kernel) (by decide +kernel)
theorem kc_RX10_398 : Cond.constantLong RX10 398 (-4611686018427387904 : Int64) ∈ tb := tb_at 1370 (by decide +kernel) (by decide +kernel)
theorem ml_RX10_400 : Cond.methodLink RX10 400 yX10_common ∈ tb := tb_at 1371 (by decide +kernel) (by decide +kernel)
theorem kc_RX10_404 : Cond.constantLong RX10 404 (9 : Int64) ∈ tb := tb_at 1381 (by decide +kernel) (by decide +kernel)
theorem ml_RX10_406 : Cond.methodLink RX10 406 yX10_isHand ∈ tb := tb_at 1378 (by decide +kernel) (by decide +kernel)
theorem ml_RX10_409 : Cond.methodLink RX10 409 yX10_salesBy ∈ tb := tb_at 1382 (by decide +kernel) (by decide +kernel)
theorem ml_RX10_412 : Cond.methodLink RX10 412 yX10_barredBy ∈ tb := tb_at 1386 (by decide +kernel) (by decide +kernel)
theorem ml_RX10_415 : Cond.methodLink RX10 415 yX10_farOf ∈ tb := tb_at 1398 (by decide +kernel) (by decide +kernel)
theorem ml_RX10_419 : Cond.methodLink RX10 419 yX10_isTongue ∈ tb := tb_at 1406 (by decide +kernel) (by decide +kernel)
theorem ml_RX10_422 : Cond.methodLink RX10 422 yX10_withinOf ∈ tb := tb_at 1413 (by decide +kernel) (by decide +kernel)
theorem ml_RX10_425 : Cond.methodLink RX10 425 yX10_handsOf ∈ tb := tb_at 1433 (by decide +kernel) (by decide +kernel)
theorem fl_RX10_428 : FL RX10 428 10 52 := ⟨RX10, TX10, 60, rfl, by decide, ut10, tb_at 1006 (by decide +kernel) (by decide +kernel)⟩
theorem fp_RX10_428 : FP RX10 428 10 52 (.boolean) false := ⟨RX10, TX10, 60, tyX10, rfl, by decide, ut10, tb_at 1006 (by decide +kernel) (by decide +kernel), tyX10_ok, nmX10, rfl, by decide +kernel, fun q => by cases q⟩
theorem fl_RX10_431 : FL RX10 431 10 53 := ⟨RX10, TX10, 60, rfl, by decide, ut10, tb_at 1007 (by decide +kernel) (by decide +kernel)⟩
theorem fp_RX10_431 : FP RX10 431 10 53 (.int) false := ⟨RX10, TX10, 60, tyX10, rfl, by decide, ut10, tb_at 1007 (by decide +kernel) (by decide +kernel), tyX10_ok, nmX10, rfl, by decide +kernel, fun q => by cases q⟩
theorem fl_RX10_434 : FL RX10 434 10 54 := ⟨RX10, TX10, 60, rfl, by decide, ut10, tb_at 1008 (by decide +kernel) (by decide +kernel)⟩
theorem fp_RX10_434 : FP RX10 434 10 54 (.int) false := ⟨RX10, TX10, 60, tyX10, rfl, by decide, ut10, tb_at 1008 (by decide +kernel) (by decide +kernel), tyX10_ok, nmX10, rfl, by decide +kernel, fun q => by cases q⟩
theorem fl_RX10_437 : FL RX10 437 10 55 := ⟨RX10, TX10, 60, rfl, by decide, ut10, tb_at 1009 (by decide +kernel) (by decide +kernel)⟩
theorem fp_RX10_437 : FP RX10 437 10 55 (.int) false := ⟨RX10, TX10, 60, tyX10, rfl, by decide, ut10, tb_at 1009 (by decide +kernel) (by decide +kernel), tyX10_ok, nmX10, rfl, by decide +kernel, fun q => by cases q⟩
theorem ml_RX10_440 : Cond.methodLink RX10 440 yX10_isSheet ∈ tb := tb_at 1457 (by decide +kernel) (by decide +kernel)
theorem ml_RX10_443 : Cond.methodLink RX10 443 yX10_sale ∈ tb := tb_at 1472 (by decide +kernel) (by decide +kernel)
theorem ml_RX10_446 : Cond.methodLink RX10 446 yX10_over ∈ tb := tb_at 1477 (by decide +kernel) (by decide +kernel)
theorem ml_RX2_3 : Cond.methodLink RX2 3 Lib.objectInit ∈ tb := tb_at 202 (by decide +kernel) (by decide +kernel)
theorem fp_RX2_9 : FP RX2 9 2 0 (.array .int) true := ⟨RX2, TX2, 5, tyX2, rfl, by decide, ut2, tb_at 205 (by decide +kernel) (by decide +kernel), tyX2_ok, nmX2, rfl, by decide +kernel, fun _ => rfl⟩
set_option maxRecDepth 100000 in
theorem nw_RX2_15 : NW RX2 15 0 3 [.null, .null, .null] := ⟨RX0, TX0, tyX0, rfl, ut0, tyX0_ok, tb_at 203 (by decide +kernel) (by decide +kernel), tb_at 105 (by decide +kernel) (by decide +kernel), tb_at 71 (by decide +kernel) (by decide +kernel), by decide +kernel⟩
theorem ml_RX2_17 : Cond.methodLink RX2 17 yX0_init ∈ tb := tb_at 204 (by decide +kernel) (by decide +kernel)
theorem fp_RX2_18 : FP RX2 18 2 1 (.object "OldBottles$Book") true := ⟨RX2, TX2, 5, tyX2, rfl, by decide, ut2, tb_at 207 (by decide +kernel) (by decide +kernel), tyX2_ok, nmX2, rfl, by decide +kernel, fun _ => rfl⟩
theorem fp_RX2_22 : FP RX2 22 2 4 (.int) false := ⟨RX2, TX2, 5, tyX2, rfl, by decide, ut2, tb_at 211 (by decide +kernel) (by decide +kernel), tyX2_ok, nmX2, rfl, by decide +kernel, fun q => by cases q⟩
theorem ml_RX3_3 : Cond.methodLink RX3 3 Lib.objectInit ∈ tb := tb_at 130 (by decide +kernel) (by decide +kernel)
theorem fl_RX3_9 : FL RX3 9 3 0 := ⟨RX3, TX3, 6, rfl, by decide, ut3, tb_at 131 (by decide +kernel) (by decide +kernel)⟩
theorem fp_RX3_9 : FP RX3 9 3 0 (.array .int) true := ⟨RX3, TX3, 6, tyX3, rfl, by decide, ut3, tb_at 131 (by decide +kernel) (by decide +kernel), tyX3_ok, nmX3, rfl, by decide +kernel, fun _ => rfl⟩
theorem fl_RX3_15 : FL RX3 15 3 1 := ⟨RX3, TX3, 6, rfl, by decide, ut3, tb_at 133 (by decide +kernel) (by decide +kernel)⟩
theorem fp_RX3_15 : FP RX3 15 3 1 (.array .int) true := ⟨RX3, TX3, 6, tyX3, rfl, by decide, ut3, tb_at 133 (by decide +kernel) (by decide +kernel), tyX3_ok, nmX3, rfl, by decide +kernel, fun _ => rfl⟩
theorem fl_RX3_18 : FL RX3 18 3 2 := ⟨RX3, TX3, 6, rfl, by decide, ut3, tb_at 135 (by decide +kernel) (by decide +kernel)⟩
theorem fp_RX3_18 : FP RX3 18 3 2 (.array .int) true := ⟨RX3, TX3, 6, tyX3, rfl, by decide, ut3, tb_at 135 (by decide +kernel) (by decide +kernel), tyX3_ok, nmX3, rfl, by decide +kernel, fun _ => rfl⟩
theorem fl_RX3_21 : FL RX3 21 3 3 := ⟨RX3, TX3, 6, rfl, by decide, ut3, tb_at 137 (by decide +kernel) (by decide +kernel)⟩
theorem fp_RX3_21 : FP RX3 21 3 3 (.array .int) true := ⟨RX3, TX3, 6, tyX3, rfl, by decide, ut3, tb_at 137 (by decide +kernel) (by decide +kernel), tyX3_ok, nmX3, rfl, by decide +kernel, fun _ => rfl⟩
theorem fl_RX3_24 : FL RX3 24 3 4 := ⟨RX3, TX3, 6, rfl, by decide, ut3, tb_at 139 (by decide +kernel) (by decide +kernel)⟩
theorem fp_RX3_24 : FP RX3 24 3 4 (.array .int) true := ⟨RX3, TX3, 6, tyX3, rfl, by decide, ut3, tb_at 139 (by decide +kernel) (by decide +kernel), tyX3_ok, nmX3, rfl, by decide +kernel, fun _ => rfl⟩
theorem fl_RX3_27 : FL RX3 27 3 5 := ⟨RX3, TX3, 6, rfl, by decide, ut3, tb_at 141 (by decide +kernel) (by decide +kernel)⟩
theorem fp_RX3_27 : FP RX3 27 3 5 (.int) false := ⟨RX3, TX3, 6, tyX3, rfl, by decide, ut3, tb_at 141 (by decide +kernel) (by decide +kernel), tyX3_ok, nmX3, rfl, by decide +kernel, fun q => by cases q⟩
theorem ml_RX4_3 : Cond.methodLink RX4 3 Lib.objectInit ∈ tb := tb_at 161 (by decide +kernel) (by decide +kernel)
theorem fl_RX4_9 : FL RX4 9 4 0 := ⟨RX4, TX4, 9, rfl, by decide, ut4, tb_at 162 (by decide +kernel) (by decide +kernel)⟩
theorem fp_RX4_9 : FP RX4 9 4 0 (.array .byte) true := ⟨RX4, TX4, 9, tyX4, rfl, by decide, ut4, tb_at 162 (by decide +kernel) (by decide +kernel), tyX4_ok, nmX4, rfl, by decide +kernel, fun _ => rfl⟩
theorem fl_RX4_15 : FL RX4 15 4 1 := ⟨RX4, TX4, 9, rfl, by decide, ut4, tb_at 163 (by decide +kernel) (by decide +kernel)⟩
theorem fp_RX4_15 : FP RX4 15 4 1 (.array .int) true := ⟨RX4, TX4, 9, tyX4, rfl, by decide, ut4, tb_at 163 (by decide +kernel) (by decide +kernel), tyX4_ok, nmX4, rfl, by decide +kernel, fun _ => rfl⟩
theorem fl_RX4_19 : FL RX4 19 4 3 := ⟨RX4, TX4, 9, rfl, by decide, ut4, tb_at 166 (by decide +kernel) (by decide +kernel)⟩
theorem fp_RX4_19 : FP RX4 19 4 3 (.int) false := ⟨RX4, TX4, 9, tyX4, rfl, by decide, ut4, tb_at 166 (by decide +kernel) (by decide +kernel), tyX4_ok, nmX4, rfl, by decide +kernel, fun q => by cases q⟩
theorem fl_RX4_23 : FL RX4 23 4 2 := ⟨RX4, TX4, 9, rfl, by decide, ut4, tb_at 164 (by decide +kernel) (by decide +kernel)⟩
theorem fp_RX4_23 : FP RX4 23 4 2 (.int) false := ⟨RX4, TX4, 9, tyX4, rfl, by decide, ut4, tb_at 164 (by decide +kernel) (by decide +kernel), tyX4_ok, nmX4, rfl, by decide +kernel, fun q => by cases q⟩
theorem fl_RX4_26 : FL RX4 26 4 4 := ⟨RX4, TX4, 9, rfl, by decide, ut4, tb_at 168 (by decide +kernel) (by decide +kernel)⟩
theorem fp_RX4_26 : FP RX4 26 4 4 (.int) false := ⟨RX4, TX4, 9, tyX4, rfl, by decide, ut4, tb_at 168 (by decide +kernel) (by decide +kernel), tyX4_ok, nmX4, rfl, by decide +kernel, fun q => by cases q⟩
theorem fl_RX4_29 : FL RX4 29 4 8 := ⟨RX4, TX4, 9, rfl, by decide, ut4, tb_at 172 (by decide +kernel) (by decide +kernel)⟩
theorem fp_RX4_29 : FP RX4 29 4 8 (.int) false := ⟨RX4, TX4, 9, tyX4, rfl, by decide, ut4, tb_at 172 (by decide +kernel) (by decide +kernel), tyX4_ok, nmX4, rfl, by decide +kernel, fun q => by cases q⟩
theorem ml_RX4_32 : Cond.methodLink RX4 32 yX4_next ∈ tb := tb_at 325 (by decide +kernel) (by decide +kernel)
theorem ml_RX4_35 : Cond.methodLink RX4 35 yX4_readClause ∈ tb := tb_at 407 (by decide +kernel) (by decide +kernel)
theorem ml_RX4_39 : Cond.methodLink RX4 39 yX4_take ∈ tb := tb_at 411 (by decide +kernel) (by decide +kernel)
set_option maxRecDepth 100000 in
theorem nw_RX4_42 : NW RX4 42 5 3 [.null, .int 0, .int 0] := ⟨RX5, TX5, tyX5, rfl, ut5, tyX5_ok, tb_at 451 (by decide +kernel) (by decide +kernel), tb_at 452 (by decide +kernel) (by decide +kernel), tb_at 84 (by decide +kernel) (by decide +kernel), by decide +kernel⟩
theorem ml_RX4_44 : Cond.methodLink RX4 44 yJ7_copyOf_59c91 ∈ tb := tb_at 453 (by decide +kernel) (by decide +kernel)
theorem ml_RX4_50 : Cond.methodLink RX4 50 yX5_init ∈ tb := tb_at 467 (by decide +kernel) (by decide +kernel)
theorem ml_RX4_53 : Cond.methodLink RX4 53 yX4_readOr ∈ tb := tb_at 419 (by decide +kernel) (by decide +kernel)
theorem ml_RX4_56 : Cond.methodLink RX4 56 yX4_readAnd ∈ tb := tb_at 423 (by decide +kernel) (by decide +kernel)
theorem fl_RX4_59 : FL RX4 59 4 5 := ⟨RX4, TX4, 9, rfl, by decide, ut4, tb_at 169 (by decide +kernel) (by decide +kernel)⟩
theorem fp_RX4_59 : FP RX4 59 4 5 (.int) false := ⟨RX4, TX4, 9, tyX4, rfl, by decide, ut4, tb_at 169 (by decide +kernel) (by decide +kernel), tyX4_ok, nmX4, rfl, by decide +kernel, fun q => by cases q⟩
theorem ml_RX4_62 : Cond.methodLink RX4 62 yX4_emit ∈ tb := tb_at 447 (by decide +kernel) (by decide +kernel)
theorem ml_RX4_65 : Cond.methodLink RX4 65 yX4_readNot ∈ tb := tb_at 427 (by decide +kernel) (by decide +kernel)
theorem ml_RX4_68 : Cond.methodLink RX4 68 yX4_readCompared ∈ tb := tb_at 431 (by decide +kernel) (by decide +kernel)
theorem ml_RX4_71 : Cond.methodLink RX4 71 yX4_fail ∈ tb := tb_at 415 (by decide +kernel) (by decide +kernel)
theorem ml_RX4_74 : Cond.methodLink RX4 74 yX4_readSum ∈ tb := tb_at 435 (by decide +kernel) (by decide +kernel)
theorem ml_RX4_77 : Cond.methodLink RX4 77 yX4_readTerm ∈ tb := tb_at 439 (by decide +kernel) (by decide +kernel)
theorem ml_RX4_80 : Cond.methodLink RX4 80 yX4_readOne ∈ tb := tb_at 443 (by decide +kernel) (by decide +kernel)
theorem fl_RX4_83 : FL RX4 83 4 7 := ⟨RX4, TX4, 9, rfl, by decide, ut4, tb_at 171 (by decide +kernel) (by decide +kernel)⟩
theorem fp_RX4_83 : FP RX4 83 4 7 (.int) false := ⟨RX4, TX4, 9, tyX4, rfl, by decide, ut4, tb_at 171 (by decide +kernel) (by decide +kernel), tyX4_ok, nmX4, rfl, by decide +kernel, fun q => by cases q⟩
theorem fl_RX4_86 : FL RX4 86 4 6 := ⟨RX4, TX4, 9, rfl, by decide, ut4, tb_at 170 (by decide +kernel) (by decide +kernel)⟩
theorem fp_RX4_86 : FP RX4 86 4 6 (.int) false := ⟨RX4, TX4, 9, tyX4, rfl, by decide, ut4, tb_at 170 (by decide +kernel) (by decide +kernel), tyX4_ok, nmX4, rfl, by decide +kernel, fun q => by cases q⟩
theorem ml_RX4_89 : Cond.methodLink RX4 89 yX4_endOf ∈ tb := tb_at 329 (by decide +kernel) (by decide +kernel)
theorem ml_RX4_93 : Cond.methodLink RX4 93 yX4_sortOf ∈ tb := tb_at 333 (by decide +kernel) (by decide +kernel)
theorem ml_RX4_97 : Cond.methodLink RX4 97 yX4_wordToken ∈ tb := tb_at 336 (by decide +kernel) (by decide +kernel)
theorem ml_RX4_101 : Cond.methodLink RX4 101 yX4_numberToken ∈ tb := tb_at 343 (by decide +kernel) (by decide +kernel)
theorem ml_RX4_106 : Cond.methodLink RX4 106 yJ0_indexOf_0f7a4 ∈ tb := tb_at 348 (by decide +kernel) (by decide +kernel)
theorem ml_RX4_113 : Cond.methodLink RX4 113 yJ0_length_8abf5 ∈ tb := tb_at 341 (by decide +kernel) (by decide +kernel)
theorem ml_RX4_116 : Cond.methodLink RX4 116 yJ0_charAt_5068e ∈ tb := tb_at 342 (by decide +kernel) (by decide +kernel)
theorem ml_RX5_3 : Cond.methodLink RX5 3 Lib.objectInit ∈ tb := tb_at 470 (by decide +kernel) (by decide +kernel)
theorem fl_RX5_9 : FL RX5 9 5 0 := ⟨RX5, TX5, 3, rfl, by decide, ut5, tb_at 471 (by decide +kernel) (by decide +kernel)⟩
theorem fp_RX5_9 : FP RX5 9 5 0 (.array .int) true := ⟨RX5, TX5, 3, tyX5, rfl, by decide, ut5, tb_at 471 (by decide +kernel) (by decide +kernel), tyX5_ok, nmX5, rfl, by decide +kernel, fun _ => rfl⟩
theorem fl_RX5_15 : FL RX5 15 5 1 := ⟨RX5, TX5, 3, rfl, by decide, ut5, tb_at 472 (by decide +kernel) (by decide +kernel)⟩
theorem fp_RX5_15 : FP RX5 15 5 1 (.int) true := ⟨RX5, TX5, 3, tyX5, rfl, by decide, ut5, tb_at 472 (by decide +kernel) (by decide +kernel), tyX5_ok, nmX5, rfl, by decide +kernel, fun _ => rfl⟩
theorem fl_RX5_19 : FL RX5 19 5 2 := ⟨RX5, TX5, 3, rfl, by decide, ut5, tb_at 473 (by decide +kernel) (by decide +kernel)⟩
theorem fp_RX5_19 : FP RX5 19 5 2 (.int) true := ⟨RX5, TX5, 3, tyX5, rfl, by decide, ut5, tb_at 473 (by decide +kernel) (by decide +kernel), tyX5_ok, nmX5, rfl, by decide +kernel, fun _ => rfl⟩
theorem ml_RX5_24 : Cond.methodLink RX5 24 yX5_truth ∈ tb := tb_at 712 (by decide +kernel) (by decide +kernel)
theorem ml_RX5_28 : Cond.methodLink RX5 28 yX5_joined ∈ tb := tb_at 715 (by decide +kernel) (by decide +kernel)
theorem ml_RX6_3 : Cond.methodLink RX6 3 Lib.objectInit ∈ tb := tb_at 254 (by decide +kernel) (by decide +kernel)
theorem fl_RX6_9 : FL RX6 9 6 0 := ⟨RX6, TX6, 3, rfl, by decide, ut6, tb_at 255 (by decide +kernel) (by decide +kernel)⟩
theorem fp_RX6_9 : FP RX6 9 6 0 (.array .int) true := ⟨RX6, TX6, 3, tyX6, rfl, by decide, ut6, tb_at 255 (by decide +kernel) (by decide +kernel), tyX6_ok, nmX6, rfl, by decide +kernel, fun _ => rfl⟩
theorem fl_RX6_15 : FL RX6 15 6 1 := ⟨RX6, TX6, 3, rfl, by decide, ut6, tb_at 257 (by decide +kernel) (by decide +kernel)⟩
theorem fp_RX6_15 : FP RX6 15 6 1 (.int) false := ⟨RX6, TX6, 3, tyX6, rfl, by decide, ut6, tb_at 257 (by decide +kernel) (by decide +kernel), tyX6_ok, nmX6, rfl, by decide +kernel, fun q => by cases q⟩
theorem ml_RX6_19 : Cond.methodLink RX6 19 yJ7_fill_53178 ∈ tb := tb_at 907 (by decide +kernel) (by decide +kernel)
theorem fl_RX6_25 : FL RX6 25 6 2 := ⟨RX6, TX6, 3, rfl, by decide, ut6, tb_at 259 (by decide +kernel) (by decide +kernel)⟩
theorem fp_RX6_25 : FP RX6 25 6 2 (.int) false := ⟨RX6, TX6, 3, tyX6, rfl, by decide, ut6, tb_at 259 (by decide +kernel) (by decide +kernel), tyX6_ok, nmX6, rfl, by decide +kernel, fun q => by cases q⟩
theorem ml_RX7_1 : Cond.methodLink RX7 1 Lib.objectInit ∈ tb := tb_at 228 (by decide +kernel) (by decide +kernel)
theorem fl_RX7_7 : FL RX7 7 7 0 := ⟨RX7, TX7, 5, rfl, by decide, ut7, tb_at 229 (by decide +kernel) (by decide +kernel)⟩
theorem fp_RX7_7 : FP RX7 7 7 0 (.int) false := ⟨RX7, TX7, 5, tyX7, rfl, by decide, ut7, tb_at 229 (by decide +kernel) (by decide +kernel), tyX7_ok, nmX7, rfl, by decide +kernel, fun q => by cases q⟩
theorem fl_RX7_13 : FL RX7 13 7 1 := ⟨RX7, TX7, 5, rfl, by decide, ut7, tb_at 231 (by decide +kernel) (by decide +kernel)⟩
theorem fp_RX7_13 : FP RX7 13 7 1 (.int) false := ⟨RX7, TX7, 5, tyX7, rfl, by decide, ut7, tb_at 231 (by decide +kernel) (by decide +kernel), tyX7_ok, nmX7, rfl, by decide +kernel, fun q => by cases q⟩
theorem fl_RX7_16 : FL RX7 16 7 2 := ⟨RX7, TX7, 5, rfl, by decide, ut7, tb_at 233 (by decide +kernel) (by decide +kernel)⟩
theorem fp_RX7_16 : FP RX7 16 7 2 (.int) false := ⟨RX7, TX7, 5, tyX7, rfl, by decide, ut7, tb_at 233 (by decide +kernel) (by decide +kernel), tyX7_ok, nmX7, rfl, by decide +kernel, fun q => by cases q⟩
theorem fl_RX7_19 : FL RX7 19 7 3 := ⟨RX7, TX7, 5, rfl, by decide, ut7, tb_at 235 (by decide +kernel) (by decide +kernel)⟩
theorem fp_RX7_19 : FP RX7 19 7 3 (.int) false := ⟨RX7, TX7, 5, tyX7, rfl, by decide, ut7, tb_at 235 (by decide +kernel) (by decide +kernel), tyX7_ok, nmX7, rfl, by decide +kernel, fun q => by cases q⟩
theorem fl_RX7_22 : FL RX7 22 7 4 := ⟨RX7, TX7, 5, rfl, by decide, ut7, tb_at 237 (by decide +kernel) (by decide +kernel)⟩
theorem fp_RX7_22 : FP RX7 22 7 4 (.int) false := ⟨RX7, TX7, 5, tyX7, rfl, by decide, ut7, tb_at 237 (by decide +kernel) (by decide +kernel), tyX7_ok, nmX7, rfl, by decide +kernel, fun q => by cases q⟩
theorem ml_RX8_1 : Cond.methodLink RX8 1 Lib.objectInit ∈ tb := tb_at 548 (by decide +kernel) (by decide +kernel)
theorem fp_RX8_7 : FP RX8 7 8 0 (.int) true := ⟨RX8, TX8, 6, tyX8, rfl, by decide, ut8, tb_at 549 (by decide +kernel) (by decide +kernel), tyX8_ok, nmX8, rfl, by decide +kernel, fun _ => rfl⟩
theorem fp_RX8_13 : FP RX8 13 8 1 (.int) true := ⟨RX8, TX8, 6, tyX8, rfl, by decide, ut8, tb_at 551 (by decide +kernel) (by decide +kernel), tyX8_ok, nmX8, rfl, by decide +kernel, fun _ => rfl⟩
theorem fl_RX8_16 : FL RX8 16 8 2 := ⟨RX8, TX8, 6, rfl, by decide, ut8, tb_at 554 (by decide +kernel) (by decide +kernel)⟩
theorem fp_RX8_16 : FP RX8 16 8 2 (.int) true := ⟨RX8, TX8, 6, tyX8, rfl, by decide, ut8, tb_at 554 (by decide +kernel) (by decide +kernel), tyX8_ok, nmX8, rfl, by decide +kernel, fun _ => rfl⟩
theorem fp_RX8_19 : FP RX8 19 8 3 (.int) true := ⟨RX8, TX8, 6, tyX8, rfl, by decide, ut8, tb_at 556 (by decide +kernel) (by decide +kernel), tyX8_ok, nmX8, rfl, by decide +kernel, fun _ => rfl⟩
theorem fl_RX8_22 : FL RX8 22 8 4 := ⟨RX8, TX8, 6, rfl, by decide, ut8, tb_at 559 (by decide +kernel) (by decide +kernel)⟩
theorem fp_RX8_22 : FP RX8 22 8 4 (.int) true := ⟨RX8, TX8, 6, tyX8, rfl, by decide, ut8, tb_at 559 (by decide +kernel) (by decide +kernel), tyX8_ok, nmX8, rfl, by decide +kernel, fun _ => rfl⟩
theorem fl_RX8_25 : FL RX8 25 8 5 := ⟨RX8, TX8, 6, rfl, by decide, ut8, tb_at 560 (by decide +kernel) (by decide +kernel)⟩
theorem ml_RX8_28 : Cond.methodLink RX8 28 yJ9_max_7cf53 ∈ tb := tb_at 765 (by decide +kernel) (by decide +kernel)
theorem ml_RX9_1 : Cond.methodLink RX9 1 Lib.objectInit ∈ tb := tb_at 95 (by decide +kernel) (by decide +kernel)
set_option maxRecDepth 100000 in
theorem nw_RX9_9 : NW RX9 9 8 6 [.int 0, .int 0, .int 0, .int 0, .int 0, .int 0] := ⟨RX8, TX8, tyX8, rfl, ut8, tyX8_ok, tb_at 98 (by decide +kernel) (by decide +kernel), tb_at 544 (by decide +kernel) (by decide +kernel), tb_at 87 (by decide +kernel) (by decide +kernel), by decide +kernel⟩
theorem fl_RX9_11 : FL RX9 11 9 0 := ⟨RX9, TX9, 17, rfl, by decide, ut9, tb_at 481 (by decide +kernel) (by decide +kernel)⟩
theorem fp_RX9_11 : FP RX9 11 9 0 (.array (.object "OldBottles$Wine")) true := ⟨RX9, TX9, 17, tyX9, rfl, by decide, ut9, tb_at 481 (by decide +kernel) (by decide +kernel), tyX9_ok, nmX9, rfl, by decide +kernel, fun _ => rfl⟩
set_option maxRecDepth 100000 in
theorem nw_RX9_15 : NW RX9 15 1 9 [.int 0, .null, .null, .int 0, .int 0, .int 0, .int 0, .int 0, .int 0] := ⟨RX1, TX1, tyX1, rfl, ut1, tyX1_ok, tb_at 100 (by decide +kernel) (by decide +kernel), tb_at 606 (by decide +kernel) (by decide +kernel), tb_at 88 (by decide +kernel) (by decide +kernel), by decide +kernel⟩
theorem fl_RX9_17 : FL RX9 17 9 2 := ⟨RX9, TX9, 17, rfl, by decide, ut9, tb_at 483 (by decide +kernel) (by decide +kernel)⟩
theorem fp_RX9_17 : FP RX9 17 9 2 (.array (.object "OldBottles$Bottle")) true := ⟨RX9, TX9, 17, tyX9, rfl, by decide, ut9, tb_at 483 (by decide +kernel) (by decide +kernel), tyX9_ok, nmX9, rfl, by decide +kernel, fun _ => rfl⟩
theorem fl_RX9_23 : FL RX9 23 9 4 := ⟨RX9, TX9, 17, rfl, by decide, ut9, tb_at 485 (by decide +kernel) (by decide +kernel)⟩
theorem fp_RX9_23 : FP RX9 23 9 4 (.array (.object "OldBottles$Rule")) true := ⟨RX9, TX9, 17, tyX9, rfl, by decide, ut9, tb_at 485 (by decide +kernel) (by decide +kernel), tyX9_ok, nmX9, rfl, by decide +kernel, fun _ => rfl⟩
set_option maxRecDepth 100000 in
theorem nw_RX9_27 : NW RX9 27 0 3 [.null, .null, .null] := ⟨RX0, TX0, tyX0, rfl, ut0, tyX0_ok, tb_at 104 (by decide +kernel) (by decide +kernel), tb_at 105 (by decide +kernel) (by decide +kernel), tb_at 71 (by decide +kernel) (by decide +kernel), by decide +kernel⟩
theorem ml_RX9_29 : Cond.methodLink RX9 29 yX0_init ∈ tb := tb_at 106 (by decide +kernel) (by decide +kernel)
theorem fl_RX9_30 : FL RX9 30 9 7 := ⟨RX9, TX9, 17, rfl, by decide, ut9, tb_at 488 (by decide +kernel) (by decide +kernel)⟩
theorem fp_RX9_30 : FP RX9 30 9 7 (.object "OldBottles$Book") true := ⟨RX9, TX9, 17, tyX9, rfl, by decide, ut9, tb_at 488 (by decide +kernel) (by decide +kernel), tyX9_ok, nmX9, rfl, by decide +kernel, fun _ => rfl⟩
set_option maxRecDepth 100000 in
theorem nw_RX9_34 : NW RX9 34 3 6 [.null, .null, .null, .null, .null, .int 0] := ⟨RX3, TX3, tyX3, rfl, ut3, tyX3_ok, tb_at 125 (by decide +kernel) (by decide +kernel), tb_at 126 (by decide +kernel) (by decide +kernel), tb_at 73 (by decide +kernel) (by decide +kernel), by decide +kernel⟩
theorem ml_RX9_36 : Cond.methodLink RX9 36 yX3_init ∈ tb := tb_at 127 (by decide +kernel) (by decide +kernel)
theorem fl_RX9_37 : FL RX9 37 9 8 := ⟨RX9, TX9, 17, rfl, by decide, ut9, tb_at 489 (by decide +kernel) (by decide +kernel)⟩
theorem fp_RX9_37 : FP RX9 37 9 8 (.object "OldBottles$Ledger") true := ⟨RX9, TX9, 17, tyX9, rfl, by decide, ut9, tb_at 489 (by decide +kernel) (by decide +kernel), tyX9_ok, nmX9, rfl, by decide +kernel, fun _ => rfl⟩
set_option maxRecDepth 100000 in
theorem nw_RX9_41 : NW RX9 41 4 9 [.null, .null, .int 0, .int 0, .int 0, .int 0, .int 0, .int 0, .int 0] := ⟨RX4, TX4, tyX4, rfl, ut4, tyX4_ok, tb_at 156 (by decide +kernel) (by decide +kernel), tb_at 157 (by decide +kernel) (by decide +kernel), tb_at 74 (by decide +kernel) (by decide +kernel), by decide +kernel⟩
theorem ml_RX9_43 : Cond.methodLink RX9 43 yX4_init ∈ tb := tb_at 158 (by decide +kernel) (by decide +kernel)
theorem fl_RX9_44 : FL RX9 44 9 9 := ⟨RX9, TX9, 17, rfl, by decide, ut9, tb_at 490 (by decide +kernel) (by decide +kernel)⟩
theorem fp_RX9_44 : FP RX9 44 9 9 (.object "OldBottles$Reader") true := ⟨RX9, TX9, 17, tyX9, rfl, by decide, ut9, tb_at 490 (by decide +kernel) (by decide +kernel), tyX9_ok, nmX9, rfl, by decide +kernel, fun _ => rfl⟩
set_option maxRecDepth 100000 in
theorem nw_RX9_48 : NW RX9 48 7 5 [.int 0, .int 0, .int 0, .int 0, .int 0] := ⟨RX7, TX7, tyX7, rfl, ut7, tyX7_ok, tb_at 193 (by decide +kernel) (by decide +kernel), tb_at 224 (by decide +kernel) (by decide +kernel), tb_at 76 (by decide +kernel) (by decide +kernel), by decide +kernel⟩
theorem fl_RX9_50 : FL RX9 50 9 10 := ⟨RX9, TX9, 17, rfl, by decide, ut9, tb_at 491 (by decide +kernel) (by decide +kernel)⟩
theorem fp_RX9_50 : FP RX9 50 9 10 (.array (.object "OldBottles$Tongue")) true := ⟨RX9, TX9, 17, tyX9, rfl, by decide, ut9, tb_at 491 (by decide +kernel) (by decide +kernel), tyX9_ok, nmX9, rfl, by decide +kernel, fun _ => rfl⟩
set_option maxRecDepth 100000 in
theorem nw_RX9_54 : NW RX9 54 6 3 [.null, .int 0, .int 0] := ⟨RX6, TX6, tyX6, rfl, ut6, tyX6_ok, tb_at 195 (by decide +kernel) (by decide +kernel), tb_at 250 (by decide +kernel) (by decide +kernel), tb_at 77 (by decide +kernel) (by decide +kernel), by decide +kernel⟩
theorem fl_RX9_56 : FL RX9 56 9 11 := ⟨RX9, TX9, 17, rfl, by decide, ut9, tb_at 492 (by decide +kernel) (by decide +kernel)⟩
theorem fp_RX9_56 : FP RX9 56 9 11 (.array (.object "OldBottles$Sheet")) true := ⟨RX9, TX9, 17, tyX9, rfl, by decide, ut9, tb_at 492 (by decide +kernel) (by decide +kernel), tyX9_ok, nmX9, rfl, by decide +kernel, fun _ => rfl⟩
set_option maxRecDepth 100000 in
theorem nw_RX9_60 : NW RX9 60 2 5 [.null, .null, .int 0, .int 0, .int 0] := ⟨RX2, TX2, tyX2, rfl, ut2, tyX2_ok, tb_at 197 (by decide +kernel) (by decide +kernel), tb_at 198 (by decide +kernel) (by decide +kernel), tb_at 75 (by decide +kernel) (by decide +kernel), by decide +kernel⟩
theorem ml_RX9_62 : Cond.methodLink RX9 62 yX2_init ∈ tb := tb_at 199 (by decide +kernel) (by decide +kernel)
theorem fl_RX9_63 : FL RX9 63 9 12 := ⟨RX9, TX9, 17, rfl, by decide, ut9, tb_at 493 (by decide +kernel) (by decide +kernel)⟩
theorem fp_RX9_63 : FP RX9 63 9 12 (.object "OldBottles$Image") true := ⟨RX9, TX9, 17, tyX9, rfl, by decide, ut9, tb_at 493 (by decide +kernel) (by decide +kernel), tyX9_ok, nmX9, rfl, by decide +kernel, fun _ => rfl⟩
theorem fl_RX9_67 : FL RX9 67 9 13 := ⟨RX9, TX9, 17, rfl, by decide, ut9, tb_at 494 (by decide +kernel) (by decide +kernel)⟩
theorem fp_RX9_67 : FP RX9 67 9 13 (.array .int) true := ⟨RX9, TX9, 17, tyX9, rfl, by decide, ut9, tb_at 494 (by decide +kernel) (by decide +kernel), tyX9_ok, nmX9, rfl, by decide +kernel, fun _ => rfl⟩
theorem fl_RX9_71 : FL RX9 71 9 14 := ⟨RX9, TX9, 17, rfl, by decide, ut9, tb_at 495 (by decide +kernel) (by decide +kernel)⟩
theorem fp_RX9_71 : FP RX9 71 9 14 (.array .int) true := ⟨RX9, TX9, 17, tyX9, rfl, by decide, ut9, tb_at 495 (by decide +kernel) (by decide +kernel), tyX9_ok, nmX9, rfl, by decide +kernel, fun _ => rfl⟩
theorem fl_RX9_74 : FL RX9 74 9 15 := ⟨RX9, TX9, 17, rfl, by decide, ut9, tb_at 496 (by decide +kernel) (by decide +kernel)⟩
theorem fp_RX9_74 : FP RX9 74 9 15 (.array .int) true := ⟨RX9, TX9, 17, tyX9, rfl, by decide, ut9, tb_at 496 (by decide +kernel) (by decide +kernel), tyX9_ok, nmX9, rfl, by decide +kernel, fun _ => rfl⟩
theorem fl_RX9_77 : FL RX9 77 9 16 := ⟨RX9, TX9, 17, rfl, by decide, ut9, tb_at 497 (by decide +kernel) (by decide +kernel)⟩
theorem fp_RX9_77 : FP RX9 77 9 16 (.array .int) true := ⟨RX9, TX9, 17, tyX9, rfl, by decide, ut9, tb_at 497 (by decide +kernel) (by decide +kernel), tyX9_ok, nmX9, rfl, by decide +kernel, fun _ => rfl⟩
theorem ml_RX9_80 : Cond.methodLink RX9 80 yX7_init ∈ tb := tb_at 225 (by decide +kernel) (by decide +kernel)
theorem ml_RX9_81 : Cond.methodLink RX9 81 yX6_init ∈ tb := tb_at 251 (by decide +kernel) (by decide +kernel)
theorem ml_RX9_84 : Cond.methodLink RX9 84 yJ0_length_8abf5 ∈ tb := tb_at 269 (by decide +kernel) (by decide +kernel)
theorem ml_RX9_90 : Cond.methodLink RX9 90 yJ0_charAt_5068e ∈ tb := tb_at 279 (by decide +kernel) (by decide +kernel)
theorem ml_RX9_94 : Cond.methodLink RX9 94 yX4_put ∈ tb := tb_at 317 (by decide +kernel) (by decide +kernel)
theorem ml_RX9_98 : Cond.methodLink RX9 98 yX4_read ∈ tb := tb_at 321 (by decide +kernel) (by decide +kernel)
theorem fl_RX9_102 : FL RX9 102 9 5 := ⟨RX9, TX9, 17, rfl, by decide, ut9, tb_at 486 (by decide +kernel) (by decide +kernel)⟩
theorem fp_RX9_102 : FP RX9 102 9 5 (.int) false := ⟨RX9, TX9, 17, tyX9, rfl, by decide, ut9, tb_at 486 (by decide +kernel) (by decide +kernel), tyX9_ok, nmX9, rfl, by decide +kernel, fun q => by cases q⟩
theorem ml_RX9_106 : Cond.methodLink RX9 106 yX9_isUpTo ∈ tb := tb_at 537 (by decide +kernel) (by decide +kernel)
theorem ml_RX9_110 : Cond.methodLink RX9 110 yX9_areParts ∈ tb := tb_at 540 (by decide +kernel) (by decide +kernel)
theorem kc_RX9_114 : Cond.constant RX9 114 (999999 : Int32) ∈ tb := tb_at 543 (by decide +kernel) (by decide +kernel)
theorem fl_RX9_115 : FL RX9 115 9 1 := ⟨RX9, TX9, 17, rfl, by decide, ut9, tb_at 482 (by decide +kernel) (by decide +kernel)⟩
theorem fp_RX9_115 : FP RX9 115 9 1 (.int) false := ⟨RX9, TX9, 17, tyX9, rfl, by decide, ut9, tb_at 482 (by decide +kernel) (by decide +kernel), tyX9_ok, nmX9, rfl, by decide +kernel, fun q => by cases q⟩
theorem ml_RX9_118 : Cond.methodLink RX9 118 yX8_init ∈ tb := tb_at 545 (by decide +kernel) (by decide +kernel)
theorem ml_RX9_121 : Cond.methodLink RX9 121 yX9_wineAt ∈ tb := tb_at 579 (by decide +kernel) (by decide +kernel)
theorem fl_RX9_125 : FL RX9 125 8 5 := ⟨RX8, TX8, 6, rfl, by decide, ut8, tb_at 561 (by decide +kernel) (by decide +kernel)⟩
theorem fp_RX9_125 : FP RX9 125 8 5 (.int) false := ⟨RX8, TX8, 6, tyX8, rfl, by decide, ut8, tb_at 561 (by decide +kernel) (by decide +kernel), tyX8_ok, nmX8, rfl, by decide +kernel, fun q => by cases q⟩
theorem ml_RX9_128 : Cond.methodLink RX9 128 yX0_place ∈ tb := tb_at 590 (by decide +kernel) (by decide +kernel)
theorem ml_RX9_132 : Cond.methodLink RX9 132 yX0_write ∈ tb := tb_at 593 (by decide +kernel) (by decide +kernel)
theorem ml_RX9_136 : Cond.methodLink RX9 136 yX9_isBelow ∈ tb := tb_at 583 (by decide +kernel) (by decide +kernel)
theorem fl_RX9_139 : FL RX9 139 0 2 := ⟨RX0, TX0, 3, rfl, by decide, ut0, tb_at 116 (by decide +kernel) (by decide +kernel)⟩
theorem fl_RX9_142 : FL RX9 142 9 3 := ⟨RX9, TX9, 17, rfl, by decide, ut9, tb_at 484 (by decide +kernel) (by decide +kernel)⟩
theorem fp_RX9_142 : FP RX9 142 9 3 (.int) false := ⟨RX9, TX9, 17, tyX9, rfl, by decide, ut9, tb_at 484 (by decide +kernel) (by decide +kernel), tyX9_ok, nmX9, rfl, by decide +kernel, fun q => by cases q⟩
theorem ml_RX9_145 : Cond.methodLink RX9 145 yX1_init ∈ tb := tb_at 607 (by decide +kernel) (by decide +kernel)
theorem ml_RX9_148 : Cond.methodLink RX9 148 yX9_bottleAt ∈ tb := tb_at 663 (by decide +kernel) (by decide +kernel)
theorem fl_RX9_152 : FL RX9 152 1 0 := ⟨RX1, TX1, 9, rfl, by decide, ut1, tb_at 621 (by decide +kernel) (by decide +kernel)⟩
theorem fl_RX9_155 : FL RX9 155 1 1 := ⟨RX1, TX1, 9, rfl, by decide, ut1, tb_at 624 (by decide +kernel) (by decide +kernel)⟩
theorem fl_RX9_159 : FL RX9 159 8 0 := ⟨RX8, TX8, 6, rfl, by decide, ut8, tb_at 550 (by decide +kernel) (by decide +kernel)⟩
theorem ml_RX9_162 : Cond.methodLink RX9 162 yX9_barBits ∈ tb := tb_at 667 (by decide +kernel) (by decide +kernel)
theorem ml_RX9_166 : Cond.methodLink RX9 166 yX9_oddBits ∈ tb := tb_at 676 (by decide +kernel) (by decide +kernel)
theorem ml_RX9_169 : Cond.methodLink RX9 169 yX9_isBarred ∈ tb := tb_at 681 (by decide +kernel) (by decide +kernel)
theorem fl_RX9_173 : FL RX9 173 1 6 := ⟨RX1, TX1, 9, rfl, by decide, ut1, tb_at 635 (by decide +kernel) (by decide +kernel)⟩
theorem ml_RX9_176 : Cond.methodLink RX9 176 yX9_weightOf ∈ tb := tb_at 685 (by decide +kernel) (by decide +kernel)
theorem fl_RX9_180 : FL RX9 180 1 5 := ⟨RX1, TX1, 9, rfl, by decide, ut1, tb_at 633 (by decide +kernel) (by decide +kernel)⟩
theorem ml_RX9_183 : Cond.methodLink RX9 183 yX9_judged ∈ tb := tb_at 690 (by decide +kernel) (by decide +kernel)
theorem fl_RX9_187 : FL RX9 187 1 3 := ⟨RX1, TX1, 9, rfl, by decide, ut1, tb_at 629 (by decide +kernel) (by decide +kernel)⟩
theorem ml_RX9_190 : Cond.methodLink RX9 190 yX9_partOf ∈ tb := tb_at 680 (by decide +kernel) (by decide +kernel)
theorem ml_RX9_193 : Cond.methodLink RX9 193 yX1_tasted ∈ tb := tb_at 724 (by decide +kernel) (by decide +kernel)
theorem fl_RX9_196 : FL RX9 196 1 8 := ⟨RX1, TX1, 9, rfl, by decide, ut1, tb_at 639 (by decide +kernel) (by decide +kernel)⟩
theorem fl_RX9_199 : FL RX9 199 3 5 := ⟨RX3, TX3, 6, rfl, by decide, ut3, tb_at 142 (by decide +kernel) (by decide +kernel)⟩
theorem fp_RX9_199 : FP RX9 199 3 5 (.int) false := ⟨RX3, TX3, 6, tyX3, rfl, by decide, ut3, tb_at 142 (by decide +kernel) (by decide +kernel), tyX3_ok, nmX3, rfl, by decide +kernel, fun q => by cases q⟩
theorem ml_RX9_202 : Cond.methodLink RX9 202 yX3_write ∈ tb := tb_at 737 (by decide +kernel) (by decide +kernel)
theorem ml_RX9_205 : Cond.methodLink RX9 205 yX1_passOn ∈ tb := tb_at 741 (by decide +kernel) (by decide +kernel)
theorem fl_RX9_209 : FL RX9 209 4 2 := ⟨RX4, TX4, 9, rfl, by decide, ut4, tb_at 165 (by decide +kernel) (by decide +kernel)⟩
theorem fl_RX9_210 : FL RX9 210 4 3 := ⟨RX4, TX4, 9, rfl, by decide, ut4, tb_at 167 (by decide +kernel) (by decide +kernel)⟩
theorem fl_RX9_213 : FL RX9 213 9 6 := ⟨RX9, TX9, 17, rfl, by decide, ut9, tb_at 487 (by decide +kernel) (by decide +kernel)⟩
theorem fp_RX9_213 : FP RX9 213 9 6 (.int) false := ⟨RX9, TX9, 17, tyX9, rfl, by decide, ut9, tb_at 487 (by decide +kernel) (by decide +kernel), tyX9_ok, nmX9, rfl, by decide +kernel, fun q => by cases q⟩
theorem ml_RX9_216 : Cond.methodLink RX9 216 yX8_remaining ∈ tb := tb_at 761 (by decide +kernel) (by decide +kernel)
theorem ml_RX9_219 : Cond.methodLink RX9 219 yX9_soldOf ∈ tb := tb_at 704 (by decide +kernel) (by decide +kernel)
theorem ml_RX9_222 : Cond.methodLink RX9 222 yJ9_max_7cf53 ∈ tb := tb_at 719 (by decide +kernel) (by decide +kernel)
theorem kc_RX9_227 : Cond.constantLong RX9 227 (-4611686018427387904 : Int64) ∈ tb := tb_at 770 (by decide +kernel) (by decide +kernel)
theorem ml_RX9_229 : Cond.methodLink RX9 229 yX9_isOfKind ∈ tb := tb_at 771 (by decide +kernel) (by decide +kernel)
theorem ml_RX9_232 : Cond.methodLink RX9 232 yX9_commonDivisor ∈ tb := tb_at 776 (by decide +kernel) (by decide +kernel)
theorem ml_RX9_235 : Cond.methodLink RX9 235 yX9_soldBy ∈ tb := tb_at 783 (by decide +kernel) (by decide +kernel)
theorem ml_RX9_239 : Cond.methodLink RX9 239 yX9_far ∈ tb := tb_at 795 (by decide +kernel) (by decide +kernel)
theorem ml_RX9_243 : Cond.methodLink RX9 243 yX9_tongueAt ∈ tb := tb_at 806 (by decide +kernel) (by decide +kernel)
theorem fl_RX9_247 : FL RX9 247 7 0 := ⟨RX7, TX7, 5, rfl, by decide, ut7, tb_at 230 (by decide +kernel) (by decide +kernel)⟩
theorem ml_RX9_250 : Cond.methodLink RX9 250 yX1_within ∈ tb := tb_at 810 (by decide +kernel) (by decide +kernel)
theorem ml_RX9_254 : Cond.methodLink RX9 254 yX7_judge ∈ tb := tb_at 815 (by decide +kernel) (by decide +kernel)
theorem fl_RX9_258 : FL RX9 258 7 2 := ⟨RX7, TX7, 5, rfl, by decide, ut7, tb_at 234 (by decide +kernel) (by decide +kernel)⟩
theorem fl_RX9_261 : FL RX9 261 7 1 := ⟨RX7, TX7, 5, rfl, by decide, ut7, tb_at 232 (by decide +kernel) (by decide +kernel)⟩
theorem fl_RX9_264 : FL RX9 264 7 4 := ⟨RX7, TX7, 5, rfl, by decide, ut7, tb_at 238 (by decide +kernel) (by decide +kernel)⟩
theorem fl_RX9_267 : FL RX9 267 7 3 := ⟨RX7, TX7, 5, rfl, by decide, ut7, tb_at 236 (by decide +kernel) (by decide +kernel)⟩
theorem ml_RX9_270 : Cond.methodLink RX9 270 yX9_weighDoubts ∈ tb := tb_at 827 (by decide +kernel) (by decide +kernel)
theorem ml_RX9_273 : Cond.methodLink RX9 273 yX9_lowestBit ∈ tb := tb_at 831 (by decide +kernel) (by decide +kernel)
theorem ml_RX9_276 : Cond.methodLink RX9 276 yX9_sumBelow ∈ tb := tb_at 834 (by decide +kernel) (by decide +kernel)
theorem fl_RX9_280 : FL RX9 280 3 1 := ⟨RX3, TX3, 6, rfl, by decide, ut3, tb_at 134 (by decide +kernel) (by decide +kernel)⟩
theorem fl_RX9_283 : FL RX9 283 3 2 := ⟨RX3, TX3, 6, rfl, by decide, ut3, tb_at 136 (by decide +kernel) (by decide +kernel)⟩
theorem fl_RX9_286 : FL RX9 286 3 0 := ⟨RX3, TX3, 6, rfl, by decide, ut3, tb_at 132 (by decide +kernel) (by decide +kernel)⟩
theorem fl_RX9_289 : FL RX9 289 3 3 := ⟨RX3, TX3, 6, rfl, by decide, ut3, tb_at 138 (by decide +kernel) (by decide +kernel)⟩
theorem fl_RX9_292 : FL RX9 292 1 7 := ⟨RX1, TX1, 9, rfl, by decide, ut1, tb_at 637 (by decide +kernel) (by decide +kernel)⟩
theorem ml_RX9_295 : Cond.methodLink RX9 295 yX3_handsOf ∈ tb := tb_at 849 (by decide +kernel) (by decide +kernel)
theorem ml_RX9_298 : Cond.methodLink RX9 298 yX3_bottlesOf ∈ tb := tb_at 853 (by decide +kernel) (by decide +kernel)
theorem kc_RX9_301 : Cond.constantLong RX9 301 (100 : Int64) ∈ tb := tb_at 857 (by decide +kernel) (by decide +kernel)
theorem ml_RX9_303 : Cond.methodLink RX9 303 yX0_bars ∈ tb := tb_at 671 (by decide +kernel) (by decide +kernel)
theorem fl_RX9_307 : FL RX9 307 3 4 := ⟨RX3, TX3, 6, rfl, by decide, ut3, tb_at 140 (by decide +kernel) (by decide +kernel)⟩
theorem fl_RX9_310 : FL RX9 310 2 0 := ⟨RX2, TX2, 5, rfl, by decide, ut2, tb_at 206 (by decide +kernel) (by decide +kernel)⟩
theorem fl_RX9_312 : FL RX9 312 2 2 := ⟨RX2, TX2, 5, rfl, by decide, ut2, tb_at 209 (by decide +kernel) (by decide +kernel)⟩
theorem fp_RX9_312 : FP RX9 312 2 2 (.int) false := ⟨RX2, TX2, 5, tyX2, rfl, by decide, ut2, tb_at 209 (by decide +kernel) (by decide +kernel), tyX2_ok, nmX2, rfl, by decide +kernel, fun q => by cases q⟩
theorem fl_RX9_314 : FL RX9 314 2 1 := ⟨RX2, TX2, 5, rfl, by decide, ut2, tb_at 208 (by decide +kernel) (by decide +kernel)⟩
theorem ml_RX9_315 : Cond.methodLink RX9 315 yX0_become ∈ tb := tb_at 866 (by decide +kernel) (by decide +kernel)
theorem fl_RX9_319 : FL RX9 319 2 3 := ⟨RX2, TX2, 5, rfl, by decide, ut2, tb_at 210 (by decide +kernel) (by decide +kernel)⟩
theorem fp_RX9_319 : FP RX9 319 2 3 (.int) false := ⟨RX2, TX2, 5, tyX2, rfl, by decide, ut2, tb_at 210 (by decide +kernel) (by decide +kernel), tyX2_ok, nmX2, rfl, by decide +kernel, fun q => by cases q⟩
theorem fl_RX9_322 : FL RX9 322 2 4 := ⟨RX2, TX2, 5, rfl, by decide, ut2, tb_at 212 (by decide +kernel) (by decide +kernel)⟩
theorem fp_RX9_322 : FP RX9 322 2 4 (.int) false := ⟨RX2, TX2, 5, tyX2, rfl, by decide, ut2, tb_at 212 (by decide +kernel) (by decide +kernel), tyX2_ok, nmX2, rfl, by decide +kernel, fun q => by cases q⟩
theorem ml_RX9_325 : Cond.methodLink RX9 325 yX9_passOnAgain ∈ tb := tb_at 875 (by decide +kernel) (by decide +kernel)
theorem ml_RX9_328 : Cond.methodLink RX9 328 yX9_barredBottles ∈ tb := tb_at 887 (by decide +kernel) (by decide +kernel)
theorem ml_RX9_331 : Cond.methodLink RX9 331 yX9_soldBottles ∈ tb := tb_at 891 (by decide +kernel) (by decide +kernel)
theorem ml_RX9_334 : Cond.methodLink RX9 334 yX9_sheetAt ∈ tb := tb_at 899 (by decide +kernel) (by decide +kernel)
theorem ml_RX9_338 : Cond.methodLink RX9 338 yX6_become ∈ tb := tb_at 903 (by decide +kernel) (by decide +kernel)
theorem fl_RX9_341 : FL RX9 341 6 1 := ⟨RX6, TX6, 3, rfl, by decide, ut6, tb_at 258 (by decide +kernel) (by decide +kernel)⟩
theorem fl_RX9_344 : FL RX9 344 6 2 := ⟨RX6, TX6, 3, rfl, by decide, ut6, tb_at 260 (by decide +kernel) (by decide +kernel)⟩
theorem fl_RX9_345 : FL RX9 345 6 0 := ⟨RX6, TX6, 3, rfl, by decide, ut6, tb_at 256 (by decide +kernel) (by decide +kernel)⟩
theorem ml_RX9_348 : Cond.methodLink RX9 348 yX6_cut ∈ tb := tb_at 912 (by decide +kernel) (by decide +kernel)
theorem ml_RX9_351 : Cond.methodLink RX9 351 yX6_has ∈ tb := tb_at 920 (by decide +kernel) (by decide +kernel)
theorem ml_RX9_354 : Cond.methodLink RX9 354 ⟨"java/lang/System", "arraycopy", "(Ljava/lang/Object;ILjava/lang/Object;II)V"⟩ ∈ tb := tb_at 924 (by decide +kernel) (by decide +kernel)
theorem ml_RX9_360 : Cond.methodLink RX9 360 yX9_sale ∈ tb := tb_at 929 (by decide +kernel) (by decide +kernel)
theorem fl_RX9_363 : FL RX9 363 1 2 := ⟨RX1, TX1, 9, rfl, by decide, ut1, tb_at 626 (by decide +kernel) (by decide +kernel)⟩
theorem fl_RX9_372 : FL RX9 372 8 3 := ⟨RX8, TX8, 6, rfl, by decide, ut8, tb_at 558 (by decide +kernel) (by decide +kernel)⟩
theorem fl_RX9_375 : FL RX9 375 8 2 := ⟨RX8, TX8, 6, rfl, by decide, ut8, tb_at 555 (by decide +kernel) (by decide +kernel)⟩
theorem fl_RX9_378 : FL RX9 378 1 4 := ⟨RX1, TX1, 9, rfl, by decide, ut1, tb_at 631 (by decide +kernel) (by decide +kernel)⟩
theorem ml_RX9_381 : Cond.methodLink RX9 381 yX9_learnNames ∈ tb := tb_at 694 (by decide +kernel) (by decide +kernel)
theorem ml_RX9_385 : Cond.methodLink RX9 385 yX5_valueOf ∈ tb := tb_at 708 (by decide +kernel) (by decide +kernel)
theorem ml_RX9_389 : Cond.methodLink RX9 389 yJ9_min_7cf53 ∈ tb := tb_at 718 (by decide +kernel) (by decide +kernel)
theorem ml_RX9_392 : Cond.methodLink RX9 392 yJ6_bitCount_0f7a4 ∈ tb := tb_at 698 (by decide +kernel) (by decide +kernel)
theorem fl_RX9_397 : FL RX9 397 8 1 := ⟨RX8, TX8, 6, rfl, by decide, ut8, tb_at 553 (by decide +kernel) (by decide +kernel)⟩
theorem ml_RX9_399 : Cond.methodLink RX9 399 yX8_taste ∈ tb := tb_at 798 (by decide +kernel) (by decide +kernel)
theorem ml_RX9_402 : Cond.methodLink RX9 402 yJ9_abs_0f7a4 ∈ tb := tb_at 799 (by decide +kernel) (by decide +kernel)
theorem ml_RX9_405 : Cond.methodLink RX9 405 yX1_forgetSales ∈ tb := tb_at 879 (by decide +kernel) (by decide +kernel)
theorem mf_X9_init : MI yX9_init cX9_init 2 0 := ⟨rfl, tb_at 93 (by decide +kernel) (by decide +kernel), tb_at 70 (by decide +kernel) (by decide +kernel), tb_at 94 (by decide +kernel) (by decide +kernel), by decide +kernel, by decide⟩
theorem mf_X0_init : MI yX0_init cX0_init 1 0 := ⟨rfl, tb_at 107 (by decide +kernel) (by decide +kernel), tb_at 71 (by decide +kernel) (by decide +kernel), tb_at 108 (by decide +kernel) (by decide +kernel), by decide +kernel, by decide⟩
theorem mf_J7_fill_53178 : MS yJ7_fill_53178 cJ7_fill_53178 4 (none : Option FieldType) 2 := ⟨tb_at 111 (by decide +kernel) (by decide +kernel), tb_at 72 (by decide +kernel) (by decide +kernel), tb_at 112 (by decide +kernel) (by decide +kernel), by decide +kernel, by decide⟩
theorem mf_X3_init : MI yX3_init cX3_init 1 0 := ⟨rfl, tb_at 128 (by decide +kernel) (by decide +kernel), tb_at 73 (by decide +kernel) (by decide +kernel), tb_at 129 (by decide +kernel) (by decide +kernel), by decide +kernel, by decide⟩
theorem mf_X4_init : MI yX4_init cX4_init 1 0 := ⟨rfl, tb_at 159 (by decide +kernel) (by decide +kernel), tb_at 74 (by decide +kernel) (by decide +kernel), tb_at 160 (by decide +kernel) (by decide +kernel), by decide +kernel, by decide⟩
theorem mf_X2_init : MI yX2_init cX2_init 1 0 := ⟨rfl, tb_at 200 (by decide +kernel) (by decide +kernel), tb_at 75 (by decide +kernel) (by decide +kernel), tb_at 201 (by decide +kernel) (by decide +kernel), by decide +kernel, by decide⟩
theorem mf_X7_init : MI yX7_init cX7_init 1 0 := ⟨rfl, tb_at 226 (by decide +kernel) (by decide +kernel), tb_at 76 (by decide +kernel) (by decide +kernel), tb_at 227 (by decide +kernel) (by decide +kernel), by decide +kernel, by decide⟩
theorem mf_X6_init : MI yX6_init cX6_init 1 0 := ⟨rfl, tb_at 252 (by decide +kernel) (by decide +kernel), tb_at 77 (by decide +kernel) (by decide +kernel), tb_at 253 (by decide +kernel) (by decide +kernel), by decide +kernel, by decide⟩
theorem mf_J0_length_8abf5 : MV yJ0_length_8abf5 cJ0_length_8abf5 1 (some FieldType.int) 0 := ⟨tb_at 270 (by decide +kernel) (by decide +kernel), tb_at 271 (by decide +kernel) (by decide +kernel), tb_at 78 (by decide +kernel) (by decide +kernel), tb_at 272 (by decide +kernel) (by decide +kernel), by decide +kernel, by decide⟩
theorem mf_J0_coder_7d493 : MV yJ0_coder_7d493 cJ0_coder_7d493 1 (some FieldType.byte) 0 := ⟨tb_at 274 (by decide +kernel) (by decide +kernel), tb_at 275 (by decide +kernel) (by decide +kernel), tb_at 78 (by decide +kernel) (by decide +kernel), tb_at 276 (by decide +kernel) (by decide +kernel), by decide +kernel, by decide⟩
theorem mf_J0_charAt_5068e : MV yJ0_charAt_5068e cJ0_charAt_5068e 2 (some FieldType.char) 1 := ⟨tb_at 280 (by decide +kernel) (by decide +kernel), tb_at 281 (by decide +kernel) (by decide +kernel), tb_at 78 (by decide +kernel) (by decide +kernel), tb_at 282 (by decide +kernel) (by decide +kernel), by decide +kernel, by decide⟩
theorem mf_J0_isLatin1_aae02 : MV yJ0_isLatin1_aae02 cJ0_isLatin1_aae02 1 (some FieldType.boolean) 0 := ⟨tb_at 284 (by decide +kernel) (by decide +kernel), tb_at 285 (by decide +kernel) (by decide +kernel), tb_at 78 (by decide +kernel) (by decide +kernel), tb_at 286 (by decide +kernel) (by decide +kernel), by decide +kernel, by decide⟩
theorem mf_J1_charAt_3b067 : MS yJ1_charAt_3b067 cJ1_charAt_3b067 2 (some FieldType.char) 2 := ⟨tb_at 288 (by decide +kernel) (by decide +kernel), tb_at 79 (by decide +kernel) (by decide +kernel), tb_at 289 (by decide +kernel) (by decide +kernel), by decide +kernel, by decide⟩
theorem mf_J0_checkIndex_df160 : MS yJ0_checkIndex_df160 cJ0_checkIndex_df160 2 (none : Option FieldType) 2 := ⟨tb_at 291 (by decide +kernel) (by decide +kernel), tb_at 78 (by decide +kernel) (by decide +kernel), tb_at 292 (by decide +kernel) (by decide +kernel), by decide +kernel, by decide⟩
theorem mf_J3_checkIndex_8e157 : MS yJ3_checkIndex_8e157 cJ3_checkIndex_8e157 3 (some FieldType.int) 3 := ⟨tb_at 296 (by decide +kernel) (by decide +kernel), tb_at 80 (by decide +kernel) (by decide +kernel), tb_at 297 (by decide +kernel) (by decide +kernel), by decide +kernel, by decide⟩
theorem mf_J2_charAt_3b067 : MS yJ2_charAt_3b067 cJ2_charAt_3b067 2 (some FieldType.char) 2 := ⟨tb_at 299 (by decide +kernel) (by decide +kernel), tb_at 81 (by decide +kernel) (by decide +kernel), tb_at 300 (by decide +kernel) (by decide +kernel), by decide +kernel, by decide⟩
theorem mf_J2_checkIndex_2214a : MS yJ2_checkIndex_2214a cJ2_checkIndex_2214a 2 (none : Option FieldType) 2 := ⟨tb_at 302 (by decide +kernel) (by decide +kernel), tb_at 81 (by decide +kernel) (by decide +kernel), tb_at 303 (by decide +kernel) (by decide +kernel), by decide +kernel, by decide⟩
theorem mf_J2_length_9d52b : MS yJ2_length_9d52b cJ2_length_9d52b 1 (some FieldType.int) 1 := ⟨tb_at 305 (by decide +kernel) (by decide +kernel), tb_at 81 (by decide +kernel) (by decide +kernel), tb_at 306 (by decide +kernel) (by decide +kernel), by decide +kernel, by decide⟩
theorem mf_J2_getChar_3b067 : MS yJ2_getChar_3b067 cJ2_getChar_3b067 2 (some FieldType.char) 2 := ⟨tb_at 309 (by decide +kernel) (by decide +kernel), tb_at 81 (by decide +kernel) (by decide +kernel), tb_at 310 (by decide +kernel) (by decide +kernel), by decide +kernel, by decide⟩
theorem mf_X4_put : MV yX4_put cX4_put 2 (none : Option FieldType) 1 := ⟨tb_at 318 (by decide +kernel) (by decide +kernel), tb_at 319 (by decide +kernel) (by decide +kernel), tb_at 74 (by decide +kernel) (by decide +kernel), tb_at 320 (by decide +kernel) (by decide +kernel), by decide +kernel, by decide⟩
theorem mf_X4_read : MV yX4_read cX4_read 3 (some (FieldType.object "OldBottles$Rule")) 0 := ⟨tb_at 322 (by decide +kernel) (by decide +kernel), tb_at 323 (by decide +kernel) (by decide +kernel), tb_at 74 (by decide +kernel) (by decide +kernel), tb_at 324 (by decide +kernel) (by decide +kernel), by decide +kernel, by decide⟩
theorem mf_X4_next : MV yX4_next cX4_next 3 (none : Option FieldType) 0 := ⟨tb_at 327 (by decide +kernel) (by decide +kernel), tb_at 0 (by decide +kernel) (by decide +kernel), tb_at 74 (by decide +kernel) (by decide +kernel), tb_at 328 (by decide +kernel) (by decide +kernel), by decide +kernel, by decide⟩
theorem mf_X4_endOf : MV yX4_endOf cX4_endOf 4 (some FieldType.int) 2 := ⟨tb_at 331 (by decide +kernel) (by decide +kernel), tb_at 1 (by decide +kernel) (by decide +kernel), tb_at 74 (by decide +kernel) (by decide +kernel), tb_at 332 (by decide +kernel) (by decide +kernel), by decide +kernel, by decide⟩
theorem mf_X4_sortOf : MS yX4_sortOf cX4_sortOf 1 (some FieldType.int) 1 := ⟨tb_at 334 (by decide +kernel) (by decide +kernel), tb_at 74 (by decide +kernel) (by decide +kernel), tb_at 335 (by decide +kernel) (by decide +kernel), by decide +kernel, by decide⟩
theorem mf_X4_wordToken : MV yX4_wordToken cX4_wordToken 6 (some FieldType.int) 0 := ⟨tb_at 338 (by decide +kernel) (by decide +kernel), tb_at 2 (by decide +kernel) (by decide +kernel), tb_at 74 (by decide +kernel) (by decide +kernel), tb_at 339 (by decide +kernel) (by decide +kernel), by decide +kernel, by decide⟩
theorem mf_X4_numberToken : MV yX4_numberToken cX4_numberToken 2 (some FieldType.int) 0 := ⟨tb_at 345 (by decide +kernel) (by decide +kernel), tb_at 3 (by decide +kernel) (by decide +kernel), tb_at 74 (by decide +kernel) (by decide +kernel), tb_at 346 (by decide +kernel) (by decide +kernel), by decide +kernel, by decide⟩
theorem mf_J0_indexOf_0f7a4 : MV yJ0_indexOf_0f7a4 cJ0_indexOf_0f7a4 2 (some FieldType.int) 1 := ⟨tb_at 349 (by decide +kernel) (by decide +kernel), tb_at 350 (by decide +kernel) (by decide +kernel), tb_at 78 (by decide +kernel) (by decide +kernel), tb_at 351 (by decide +kernel) (by decide +kernel), by decide +kernel, by decide⟩
theorem mf_J0_indexOf_7cf53 : MV yJ0_indexOf_7cf53 cJ0_indexOf_7cf53 3 (some FieldType.int) 2 := ⟨tb_at 353 (by decide +kernel) (by decide +kernel), tb_at 354 (by decide +kernel) (by decide +kernel), tb_at 78 (by decide +kernel) (by decide +kernel), tb_at 355 (by decide +kernel) (by decide +kernel), by decide +kernel, by decide⟩
theorem mf_J1_indexOf_4cfef : MS yJ1_indexOf_4cfef cJ1_indexOf_4cfef 4 (some FieldType.int) 4 := ⟨tb_at 358 (by decide +kernel) (by decide +kernel), tb_at 79 (by decide +kernel) (by decide +kernel), tb_at 359 (by decide +kernel) (by decide +kernel), by decide +kernel, by decide⟩
theorem mf_J1_canEncode_9a6ad : MS yJ1_canEncode_9a6ad cJ1_canEncode_9a6ad 1 (some FieldType.boolean) 1 := ⟨tb_at 361 (by decide +kernel) (by decide +kernel), tb_at 79 (by decide +kernel) (by decide +kernel), tb_at 362 (by decide +kernel) (by decide +kernel), by decide +kernel, by decide⟩
theorem mf_J9_max_7cf53 : MS yJ9_max_7cf53 cJ9_max_7cf53 2 (some FieldType.int) 2 := ⟨tb_at 364 (by decide +kernel) (by decide +kernel), tb_at 82 (by decide +kernel) (by decide +kernel), tb_at 365 (by decide +kernel) (by decide +kernel), by decide +kernel, by decide⟩
theorem mf_J9_min_7cf53 : MS yJ9_min_7cf53 cJ9_min_7cf53 2 (some FieldType.int) 2 := ⟨tb_at 367 (by decide +kernel) (by decide +kernel), tb_at 82 (by decide +kernel) (by decide +kernel), tb_at 368 (by decide +kernel) (by decide +kernel), by decide +kernel, by decide⟩
theorem mf_J1_indexOfChar_4cfef : MS yJ1_indexOfChar_4cfef cJ1_indexOfChar_4cfef 6 (some FieldType.int) 4 := ⟨tb_at 370 (by decide +kernel) (by decide +kernel), tb_at 79 (by decide +kernel) (by decide +kernel), tb_at 371 (by decide +kernel) (by decide +kernel), by decide +kernel, by decide⟩
theorem mf_J2_indexOf_4cfef : MS yJ2_indexOf_4cfef cJ2_indexOf_4cfef 4 (some FieldType.int) 4 := ⟨tb_at 373 (by decide +kernel) (by decide +kernel), tb_at 81 (by decide +kernel) (by decide +kernel), tb_at 374 (by decide +kernel) (by decide +kernel), by decide +kernel, by decide⟩
theorem mf_J2_indexOfChar_4cfef : MS yJ2_indexOfChar_4cfef cJ2_indexOfChar_4cfef 4 (some FieldType.int) 4 := ⟨tb_at 379 (by decide +kernel) (by decide +kernel), tb_at 81 (by decide +kernel) (by decide +kernel), tb_at 380 (by decide +kernel) (by decide +kernel), by decide +kernel, by decide⟩
theorem mf_J2_checkBoundsBeginEnd_d044e : MS yJ2_checkBoundsBeginEnd_d044e cJ2_checkBoundsBeginEnd_d044e 3 (none : Option FieldType) 3 := ⟨tb_at 382 (by decide +kernel) (by decide +kernel), tb_at 81 (by decide +kernel) (by decide +kernel), tb_at 383 (by decide +kernel) (by decide +kernel), by decide +kernel, by decide⟩
theorem mf_J0_checkBoundsBeginEnd_23922 : MS yJ0_checkBoundsBeginEnd_23922 cJ0_checkBoundsBeginEnd_23922 3 (none : Option FieldType) 3 := ⟨tb_at 385 (by decide +kernel) (by decide +kernel), tb_at 78 (by decide +kernel) (by decide +kernel), tb_at 386 (by decide +kernel) (by decide +kernel), by decide +kernel, by decide⟩
theorem mf_J3_checkFromToIndex_8c36e : MS yJ3_checkFromToIndex_8c36e cJ3_checkFromToIndex_8c36e 4 (some FieldType.int) 4 := ⟨tb_at 388 (by decide +kernel) (by decide +kernel), tb_at 80 (by decide +kernel) (by decide +kernel), tb_at 389 (by decide +kernel) (by decide +kernel), by decide +kernel, by decide⟩
theorem mf_J2_indexOfCharUnsafe_4cfef : MS yJ2_indexOfCharUnsafe_4cfef cJ2_indexOfCharUnsafe_4cfef 5 (some FieldType.int) 4 := ⟨tb_at 391 (by decide +kernel) (by decide +kernel), tb_at 81 (by decide +kernel) (by decide +kernel), tb_at 392 (by decide +kernel) (by decide +kernel), by decide +kernel, by decide⟩
theorem mf_J2_indexOfSupplementary_4cfef : MS yJ2_indexOfSupplementary_4cfef cJ2_indexOfSupplementary_4cfef 7 (some FieldType.int) 4 := ⟨tb_at 394 (by decide +kernel) (by decide +kernel), tb_at 81 (by decide +kernel) (by decide +kernel), tb_at 395 (by decide +kernel) (by decide +kernel), by decide +kernel, by decide⟩
theorem mf_J11_isValidCodePoint_9a6ad : MS yJ11_isValidCodePoint_9a6ad cJ11_isValidCodePoint_9a6ad 2 (some FieldType.boolean) 1 := ⟨tb_at 397 (by decide +kernel) (by decide +kernel), tb_at 83 (by decide +kernel) (by decide +kernel), tb_at 398 (by decide +kernel) (by decide +kernel), by decide +kernel, by decide⟩
theorem mf_J11_highSurrogate_5068e : MS yJ11_highSurrogate_5068e cJ11_highSurrogate_5068e 1 (some FieldType.char) 1 := ⟨tb_at 400 (by decide +kernel) (by decide +kernel), tb_at 83 (by decide +kernel) (by decide +kernel), tb_at 401 (by decide +kernel) (by decide +kernel), by decide +kernel, by decide⟩
theorem mf_J11_lowSurrogate_5068e : MS yJ11_lowSurrogate_5068e cJ11_lowSurrogate_5068e 1 (some FieldType.char) 1 := ⟨tb_at 404 (by decide +kernel) (by decide +kernel), tb_at 83 (by decide +kernel) (by decide +kernel), tb_at 405 (by decide +kernel) (by decide +kernel), by decide +kernel, by decide⟩
theorem mf_X4_readClause : MV yX4_readClause cX4_readClause 2 (none : Option FieldType) 1 := ⟨tb_at 409 (by decide +kernel) (by decide +kernel), tb_at 4 (by decide +kernel) (by decide +kernel), tb_at 74 (by decide +kernel) (by decide +kernel), tb_at 410 (by decide +kernel) (by decide +kernel), by decide +kernel, by decide⟩
theorem mf_X4_take : MV yX4_take cX4_take 2 (none : Option FieldType) 1 := ⟨tb_at 413 (by decide +kernel) (by decide +kernel), tb_at 5 (by decide +kernel) (by decide +kernel), tb_at 74 (by decide +kernel) (by decide +kernel), tb_at 414 (by decide +kernel) (by decide +kernel), by decide +kernel, by decide⟩
theorem mf_X4_fail : MV yX4_fail cX4_fail 1 (none : Option FieldType) 0 := ⟨tb_at 417 (by decide +kernel) (by decide +kernel), tb_at 6 (by decide +kernel) (by decide +kernel), tb_at 74 (by decide +kernel) (by decide +kernel), tb_at 418 (by decide +kernel) (by decide +kernel), by decide +kernel, by decide⟩
theorem mf_X4_readOr : MV yX4_readOr cX4_readOr 3 (none : Option FieldType) 1 := ⟨tb_at 421 (by decide +kernel) (by decide +kernel), tb_at 7 (by decide +kernel) (by decide +kernel), tb_at 74 (by decide +kernel) (by decide +kernel), tb_at 422 (by decide +kernel) (by decide +kernel), by decide +kernel, by decide⟩
theorem mf_X4_readAnd : MV yX4_readAnd cX4_readAnd 3 (none : Option FieldType) 1 := ⟨tb_at 425 (by decide +kernel) (by decide +kernel), tb_at 8 (by decide +kernel) (by decide +kernel), tb_at 74 (by decide +kernel) (by decide +kernel), tb_at 426 (by decide +kernel) (by decide +kernel), by decide +kernel, by decide⟩
theorem mf_X4_readNot : MV yX4_readNot cX4_readNot 2 (none : Option FieldType) 1 := ⟨tb_at 429 (by decide +kernel) (by decide +kernel), tb_at 9 (by decide +kernel) (by decide +kernel), tb_at 74 (by decide +kernel) (by decide +kernel), tb_at 430 (by decide +kernel) (by decide +kernel), by decide +kernel, by decide⟩
theorem mf_X4_readCompared : MV yX4_readCompared cX4_readCompared 3 (none : Option FieldType) 1 := ⟨tb_at 433 (by decide +kernel) (by decide +kernel), tb_at 10 (by decide +kernel) (by decide +kernel), tb_at 74 (by decide +kernel) (by decide +kernel), tb_at 434 (by decide +kernel) (by decide +kernel), by decide +kernel, by decide⟩
theorem mf_X4_readSum : MV yX4_readSum cX4_readSum 4 (none : Option FieldType) 1 := ⟨tb_at 437 (by decide +kernel) (by decide +kernel), tb_at 11 (by decide +kernel) (by decide +kernel), tb_at 74 (by decide +kernel) (by decide +kernel), tb_at 438 (by decide +kernel) (by decide +kernel), by decide +kernel, by decide⟩
theorem mf_X4_readTerm : MV yX4_readTerm cX4_readTerm 3 (none : Option FieldType) 1 := ⟨tb_at 441 (by decide +kernel) (by decide +kernel), tb_at 12 (by decide +kernel) (by decide +kernel), tb_at 74 (by decide +kernel) (by decide +kernel), tb_at 442 (by decide +kernel) (by decide +kernel), by decide +kernel, by decide⟩
theorem mf_X4_readOne : MV yX4_readOne cX4_readOne 2 (none : Option FieldType) 1 := ⟨tb_at 445 (by decide +kernel) (by decide +kernel), tb_at 13 (by decide +kernel) (by decide +kernel), tb_at 74 (by decide +kernel) (by decide +kernel), tb_at 446 (by decide +kernel) (by decide +kernel), by decide +kernel, by decide⟩
theorem mf_X4_emit : MV yX4_emit cX4_emit 2 (none : Option FieldType) 1 := ⟨tb_at 449 (by decide +kernel) (by decide +kernel), tb_at 14 (by decide +kernel) (by decide +kernel), tb_at 74 (by decide +kernel) (by decide +kernel), tb_at 450 (by decide +kernel) (by decide +kernel), by decide +kernel, by decide⟩
theorem mf_J7_copyOf_59c91 : MS yJ7_copyOf_59c91 cJ7_copyOf_59c91 3 (some (FieldType.array FieldType.int)) 2 := ⟨tb_at 454 (by decide +kernel) (by decide +kernel), tb_at 72 (by decide +kernel) (by decide +kernel), tb_at 455 (by decide +kernel) (by decide +kernel), by decide +kernel, by decide⟩
theorem mf_X5_init : MI yX5_init cX5_init 4 3 := ⟨rfl, tb_at 468 (by decide +kernel) (by decide +kernel), tb_at 84 (by decide +kernel) (by decide +kernel), tb_at 469 (by decide +kernel) (by decide +kernel), by decide +kernel, by decide⟩
theorem mf_X9_wine : MV yX9_wine cX9_wine 5 (some FieldType.int) 4 := ⟨tb_at 534 (by decide +kernel) (by decide +kernel), tb_at 535 (by decide +kernel) (by decide +kernel), tb_at 70 (by decide +kernel) (by decide +kernel), tb_at 536 (by decide +kernel) (by decide +kernel), by decide +kernel, by decide⟩
theorem mf_X9_isUpTo : MS yX9_isUpTo cX9_isUpTo 2 (some FieldType.boolean) 2 := ⟨tb_at 538 (by decide +kernel) (by decide +kernel), tb_at 70 (by decide +kernel) (by decide +kernel), tb_at 539 (by decide +kernel) (by decide +kernel), by decide +kernel, by decide⟩
theorem mf_X9_areParts : MS yX9_areParts cX9_areParts 1 (some FieldType.boolean) 1 := ⟨tb_at 541 (by decide +kernel) (by decide +kernel), tb_at 70 (by decide +kernel) (by decide +kernel), tb_at 542 (by decide +kernel) (by decide +kernel), by decide +kernel, by decide⟩
theorem mf_X8_init : MI yX8_init cX8_init 6 5 := ⟨rfl, tb_at 546 (by decide +kernel) (by decide +kernel), tb_at 87 (by decide +kernel) (by decide +kernel), tb_at 547 (by decide +kernel) (by decide +kernel), by decide +kernel, by decide⟩
theorem mf_X9_drunk : MV yX9_drunk cX9_drunk 5 (some FieldType.int) 2 := ⟨tb_at 576 (by decide +kernel) (by decide +kernel), tb_at 577 (by decide +kernel) (by decide +kernel), tb_at 70 (by decide +kernel) (by decide +kernel), tb_at 578 (by decide +kernel) (by decide +kernel), by decide +kernel, by decide⟩
theorem mf_X9_wineAt : MV yX9_wineAt cX9_wineAt 2 (some (FieldType.object "OldBottles$Wine")) 1 := ⟨tb_at 581 (by decide +kernel) (by decide +kernel), tb_at 15 (by decide +kernel) (by decide +kernel), tb_at 70 (by decide +kernel) (by decide +kernel), tb_at 582 (by decide +kernel) (by decide +kernel), by decide +kernel, by decide⟩
theorem mf_X9_isBelow : MS yX9_isBelow cX9_isBelow 2 (some FieldType.boolean) 2 := ⟨tb_at 584 (by decide +kernel) (by decide +kernel), tb_at 70 (by decide +kernel) (by decide +kernel), tb_at 585 (by decide +kernel) (by decide +kernel), by decide +kernel, by decide⟩
theorem mf_X9_book : MV yX9_book cX9_book 5 (some FieldType.int) 4 := ⟨tb_at 587 (by decide +kernel) (by decide +kernel), tb_at 588 (by decide +kernel) (by decide +kernel), tb_at 70 (by decide +kernel) (by decide +kernel), tb_at 589 (by decide +kernel) (by decide +kernel), by decide +kernel, by decide⟩
theorem mf_X0_place : MS yX0_place cX0_place 2 (some FieldType.int) 2 := ⟨tb_at 591 (by decide +kernel) (by decide +kernel), tb_at 71 (by decide +kernel) (by decide +kernel), tb_at 592 (by decide +kernel) (by decide +kernel), by decide +kernel, by decide⟩
theorem mf_X0_write : MV yX0_write cX0_write 6 (none : Option FieldType) 4 := ⟨tb_at 594 (by decide +kernel) (by decide +kernel), tb_at 595 (by decide +kernel) (by decide +kernel), tb_at 71 (by decide +kernel) (by decide +kernel), tb_at 596 (by decide +kernel) (by decide +kernel), by decide +kernel, by decide⟩
theorem mf_X9_test : MV yX9_test cX9_test 4 (some FieldType.int) 2 := ⟨tb_at 599 (by decide +kernel) (by decide +kernel), tb_at 600 (by decide +kernel) (by decide +kernel), tb_at 70 (by decide +kernel) (by decide +kernel), tb_at 601 (by decide +kernel) (by decide +kernel), by decide +kernel, by decide⟩
theorem mf_X9_bottle : MV yX9_bottle cX9_bottle 6 (some FieldType.int) 3 := ⟨tb_at 603 (by decide +kernel) (by decide +kernel), tb_at 604 (by decide +kernel) (by decide +kernel), tb_at 70 (by decide +kernel) (by decide +kernel), tb_at 605 (by decide +kernel) (by decide +kernel), by decide +kernel, by decide⟩
theorem mf_X1_init : MI yX1_init cX1_init 5 4 := ⟨rfl, tb_at 608 (by decide +kernel) (by decide +kernel), tb_at 88 (by decide +kernel) (by decide +kernel), tb_at 609 (by decide +kernel) (by decide +kernel), by decide +kernel, by decide⟩
theorem mf_X1_shownParts : MS yX1_shownParts cX1_shownParts 6 (some FieldType.int) 3 := ⟨tb_at 612 (by decide +kernel) (by decide +kernel), tb_at 88 (by decide +kernel) (by decide +kernel), tb_at 613 (by decide +kernel) (by decide +kernel), by decide +kernel, by decide⟩
theorem mf_X9_partOf : MS yX9_partOf cX9_partOf 2 (some FieldType.int) 2 := ⟨tb_at 618 (by decide +kernel) (by decide +kernel), tb_at 70 (by decide +kernel) (by decide +kernel), tb_at 619 (by decide +kernel) (by decide +kernel), by decide +kernel, by decide⟩
theorem mf_X9_told : MV yX9_told cX9_told 4 (some FieldType.int) 2 := ⟨tb_at 660 (by decide +kernel) (by decide +kernel), tb_at 661 (by decide +kernel) (by decide +kernel), tb_at 70 (by decide +kernel) (by decide +kernel), tb_at 662 (by decide +kernel) (by decide +kernel), by decide +kernel, by decide⟩
theorem mf_X9_bottleAt : MV yX9_bottleAt cX9_bottleAt 2 (some (FieldType.object "OldBottles$Bottle")) 1 := ⟨tb_at 665 (by decide +kernel) (by decide +kernel), tb_at 16 (by decide +kernel) (by decide +kernel), tb_at 70 (by decide +kernel) (by decide +kernel), tb_at 666 (by decide +kernel) (by decide +kernel), by decide +kernel, by decide⟩
theorem mf_X9_barBits : MV yX9_barBits cX9_barBits 4 (some FieldType.int) 1 := ⟨tb_at 669 (by decide +kernel) (by decide +kernel), tb_at 17 (by decide +kernel) (by decide +kernel), tb_at 70 (by decide +kernel) (by decide +kernel), tb_at 670 (by decide +kernel) (by decide +kernel), by decide +kernel, by decide⟩
theorem mf_X0_bars : MV yX0_bars cX0_bars 4 (some FieldType.boolean) 2 := ⟨tb_at 672 (by decide +kernel) (by decide +kernel), tb_at 673 (by decide +kernel) (by decide +kernel), tb_at 71 (by decide +kernel) (by decide +kernel), tb_at 674 (by decide +kernel) (by decide +kernel), by decide +kernel, by decide⟩
theorem mf_X9_oddBits : MV yX9_oddBits cX9_oddBits 4 (some FieldType.int) 1 := ⟨tb_at 678 (by decide +kernel) (by decide +kernel), tb_at 18 (by decide +kernel) (by decide +kernel), tb_at 70 (by decide +kernel) (by decide +kernel), tb_at 679 (by decide +kernel) (by decide +kernel), by decide +kernel, by decide⟩
theorem mf_X9_isBarred : MV yX9_isBarred cX9_isBarred 2 (some FieldType.boolean) 1 := ⟨tb_at 683 (by decide +kernel) (by decide +kernel), tb_at 19 (by decide +kernel) (by decide +kernel), tb_at 70 (by decide +kernel) (by decide +kernel), tb_at 684 (by decide +kernel) (by decide +kernel), by decide +kernel, by decide⟩
theorem mf_X9_weightOf : MS yX9_weightOf cX9_weightOf 1 (some FieldType.int) 1 := ⟨tb_at 686 (by decide +kernel) (by decide +kernel), tb_at 70 (by decide +kernel) (by decide +kernel), tb_at 687 (by decide +kernel) (by decide +kernel), by decide +kernel, by decide⟩
theorem mf_X9_judged : MV yX9_judged cX9_judged 7 (some FieldType.int) 2 := ⟨tb_at 692 (by decide +kernel) (by decide +kernel), tb_at 20 (by decide +kernel) (by decide +kernel), tb_at 70 (by decide +kernel) (by decide +kernel), tb_at 693 (by decide +kernel) (by decide +kernel), by decide +kernel, by decide⟩
theorem mf_X9_learnNames : MV yX9_learnNames cX9_learnNames 2 (none : Option FieldType) 1 := ⟨tb_at 696 (by decide +kernel) (by decide +kernel), tb_at 21 (by decide +kernel) (by decide +kernel), tb_at 70 (by decide +kernel) (by decide +kernel), tb_at 697 (by decide +kernel) (by decide +kernel), by decide +kernel, by decide⟩
theorem mf_J6_bitCount_0f7a4 : MS yJ6_bitCount_0f7a4 cJ6_bitCount_0f7a4 1 (some FieldType.int) 1 := ⟨tb_at 699 (by decide +kernel) (by decide +kernel), tb_at 89 (by decide +kernel) (by decide +kernel), tb_at 700 (by decide +kernel) (by decide +kernel), by decide +kernel, by decide⟩
theorem mf_X9_soldOf : MV yX9_soldOf cX9_soldOf 5 (some FieldType.int) 1 := ⟨tb_at 706 (by decide +kernel) (by decide +kernel), tb_at 22 (by decide +kernel) (by decide +kernel), tb_at 70 (by decide +kernel) (by decide +kernel), tb_at 707 (by decide +kernel) (by decide +kernel), by decide +kernel, by decide⟩
theorem mf_X5_valueOf : MV yX5_valueOf cX5_valueOf 10 (some FieldType.int) 3 := ⟨tb_at 709 (by decide +kernel) (by decide +kernel), tb_at 710 (by decide +kernel) (by decide +kernel), tb_at 84 (by decide +kernel) (by decide +kernel), tb_at 711 (by decide +kernel) (by decide +kernel), by decide +kernel, by decide⟩
theorem mf_X5_truth : MS yX5_truth cX5_truth 1 (some FieldType.int) 1 := ⟨tb_at 713 (by decide +kernel) (by decide +kernel), tb_at 84 (by decide +kernel) (by decide +kernel), tb_at 714 (by decide +kernel) (by decide +kernel), by decide +kernel, by decide⟩
theorem mf_X5_joined : MS yX5_joined cX5_joined 3 (some FieldType.int) 3 := ⟨tb_at 716 (by decide +kernel) (by decide +kernel), tb_at 84 (by decide +kernel) (by decide +kernel), tb_at 717 (by decide +kernel) (by decide +kernel), by decide +kernel, by decide⟩
theorem mf_X9_shows : MV yX9_shows cX9_shows 4 (some FieldType.int) 2 := ⟨tb_at 721 (by decide +kernel) (by decide +kernel), tb_at 722 (by decide +kernel) (by decide +kernel), tb_at 70 (by decide +kernel) (by decide +kernel), tb_at 723 (by decide +kernel) (by decide +kernel), by decide +kernel, by decide⟩
theorem mf_X1_tasted : MV yX1_tasted cX1_tasted 2 (some FieldType.int) 1 := ⟨tb_at 725 (by decide +kernel) (by decide +kernel), tb_at 726 (by decide +kernel) (by decide +kernel), tb_at 88 (by decide +kernel) (by decide +kernel), tb_at 727 (by decide +kernel) (by decide +kernel), by decide +kernel, by decide⟩
theorem mf_X8_taste : MV yX8_taste cX8_taste 2 (some FieldType.int) 1 := ⟨tb_at 729 (by decide +kernel) (by decide +kernel), tb_at 730 (by decide +kernel) (by decide +kernel), tb_at 87 (by decide +kernel) (by decide +kernel), tb_at 731 (by decide +kernel) (by decide +kernel), by decide +kernel, by decide⟩
theorem mf_X9_sale : MV yX9_sale cX9_sale 7 (some FieldType.int) 4 := ⟨tb_at 734 (by decide +kernel) (by decide +kernel), tb_at 735 (by decide +kernel) (by decide +kernel), tb_at 70 (by decide +kernel) (by decide +kernel), tb_at 736 (by decide +kernel) (by decide +kernel), by decide +kernel, by decide⟩
theorem mf_X3_write : MV yX3_write cX3_write 5 (some FieldType.int) 4 := ⟨tb_at 738 (by decide +kernel) (by decide +kernel), tb_at 739 (by decide +kernel) (by decide +kernel), tb_at 73 (by decide +kernel) (by decide +kernel), tb_at 740 (by decide +kernel) (by decide +kernel), by decide +kernel, by decide⟩
theorem mf_X1_passOn : MV yX1_passOn cX1_passOn 5 (none : Option FieldType) 3 := ⟨tb_at 742 (by decide +kernel) (by decide +kernel), tb_at 743 (by decide +kernel) (by decide +kernel), tb_at 88 (by decide +kernel) (by decide +kernel), tb_at 744 (by decide +kernel) (by decide +kernel), by decide +kernel, by decide⟩
theorem mf_X9_feed : MV yX9_feed cX9_feed 5 (some FieldType.int) 2 := ⟨tb_at 746 (by decide +kernel) (by decide +kernel), tb_at 747 (by decide +kernel) (by decide +kernel), tb_at 70 (by decide +kernel) (by decide +kernel), tb_at 748 (by decide +kernel) (by decide +kernel), by decide +kernel, by decide⟩
theorem mf_X9_text : MV yX9_text cX9_text 2 (some FieldType.int) 0 := ⟨tb_at 750 (by decide +kernel) (by decide +kernel), tb_at 751 (by decide +kernel) (by decide +kernel), tb_at 70 (by decide +kernel) (by decide +kernel), tb_at 752 (by decide +kernel) (by decide +kernel), by decide +kernel, by decide⟩
theorem mf_X9_force : MV yX9_force cX9_force 3 (some FieldType.int) 1 := ⟨tb_at 754 (by decide +kernel) (by decide +kernel), tb_at 755 (by decide +kernel) (by decide +kernel), tb_at 70 (by decide +kernel) (by decide +kernel), tb_at 756 (by decide +kernel) (by decide +kernel), by decide +kernel, by decide⟩
theorem mf_X9_left : MV yX9_left cX9_left 4 (some FieldType.int) 2 := ⟨tb_at 758 (by decide +kernel) (by decide +kernel), tb_at 759 (by decide +kernel) (by decide +kernel), tb_at 70 (by decide +kernel) (by decide +kernel), tb_at 760 (by decide +kernel) (by decide +kernel), by decide +kernel, by decide⟩
theorem mf_X8_remaining : MV yX8_remaining cX8_remaining 1 (some FieldType.int) 0 := ⟨tb_at 762 (by decide +kernel) (by decide +kernel), tb_at 763 (by decide +kernel) (by decide +kernel), tb_at 87 (by decide +kernel) (by decide +kernel), tb_at 764 (by decide +kernel) (by decide +kernel), by decide +kernel, by decide⟩
theorem mf_X9_odds : MV yX9_odds cX9_odds 8 (some FieldType.long) 2 := ⟨tb_at 767 (by decide +kernel) (by decide +kernel), tb_at 768 (by decide +kernel) (by decide +kernel), tb_at 70 (by decide +kernel) (by decide +kernel), tb_at 769 (by decide +kernel) (by decide +kernel), by decide +kernel, by decide⟩
theorem mf_X9_isOfKind : MS yX9_isOfKind cX9_isOfKind 4 (some FieldType.boolean) 2 := ⟨tb_at 772 (by decide +kernel) (by decide +kernel), tb_at 70 (by decide +kernel) (by decide +kernel), tb_at 773 (by decide +kernel) (by decide +kernel), by decide +kernel, by decide⟩
theorem mf_X9_commonDivisor : MS yX9_commonDivisor cX9_commonDivisor 6 (some FieldType.int) 2 := ⟨tb_at 777 (by decide +kernel) (by decide +kernel), tb_at 70 (by decide +kernel) (by decide +kernel), tb_at 778 (by decide +kernel) (by decide +kernel), by decide +kernel, by decide⟩
theorem mf_X9_source : MV yX9_source cX9_source 3 (some FieldType.int) 2 := ⟨tb_at 780 (by decide +kernel) (by decide +kernel), tb_at 781 (by decide +kernel) (by decide +kernel), tb_at 70 (by decide +kernel) (by decide +kernel), tb_at 782 (by decide +kernel) (by decide +kernel), by decide +kernel, by decide⟩
theorem mf_X9_soldBy : MV yX9_soldBy cX9_soldBy 5 (some FieldType.int) 2 := ⟨tb_at 785 (by decide +kernel) (by decide +kernel), tb_at 23 (by decide +kernel) (by decide +kernel), tb_at 70 (by decide +kernel) (by decide +kernel), tb_at 786 (by decide +kernel) (by decide +kernel), by decide +kernel, by decide⟩
theorem mf_X9_worst : MV yX9_worst cX9_worst 8 (some FieldType.int) 0 := ⟨tb_at 788 (by decide +kernel) (by decide +kernel), tb_at 789 (by decide +kernel) (by decide +kernel), tb_at 70 (by decide +kernel) (by decide +kernel), tb_at 790 (by decide +kernel) (by decide +kernel), by decide +kernel, by decide⟩
theorem mf_X9_mix : MV yX9_mix cX9_mix 12 (some FieldType.int) 4 := ⟨tb_at 792 (by decide +kernel) (by decide +kernel), tb_at 793 (by decide +kernel) (by decide +kernel), tb_at 70 (by decide +kernel) (by decide +kernel), tb_at 794 (by decide +kernel) (by decide +kernel), by decide +kernel, by decide⟩
theorem mf_X9_far : MS yX9_far cX9_far 7 (some FieldType.int) 4 := ⟨tb_at 796 (by decide +kernel) (by decide +kernel), tb_at 70 (by decide +kernel) (by decide +kernel), tb_at 797 (by decide +kernel) (by decide +kernel), by decide +kernel, by decide⟩
theorem mf_J9_abs_0f7a4 : MS yJ9_abs_0f7a4 cJ9_abs_0f7a4 1 (some FieldType.int) 1 := ⟨tb_at 800 (by decide +kernel) (by decide +kernel), tb_at 82 (by decide +kernel) (by decide +kernel), tb_at 801 (by decide +kernel) (by decide +kernel), by decide +kernel, by decide⟩
theorem mf_X9_said : MV yX9_said cX9_said 7 (some FieldType.int) 4 := ⟨tb_at 803 (by decide +kernel) (by decide +kernel), tb_at 804 (by decide +kernel) (by decide +kernel), tb_at 70 (by decide +kernel) (by decide +kernel), tb_at 805 (by decide +kernel) (by decide +kernel), by decide +kernel, by decide⟩
theorem mf_X9_tongueAt : MV yX9_tongueAt cX9_tongueAt 2 (some (FieldType.object "OldBottles$Tongue")) 1 := ⟨tb_at 808 (by decide +kernel) (by decide +kernel), tb_at 24 (by decide +kernel) (by decide +kernel), tb_at 70 (by decide +kernel) (by decide +kernel), tb_at 809 (by decide +kernel) (by decide +kernel), by decide +kernel, by decide⟩
theorem mf_X1_within : MV yX1_within cX1_within 1 (some (FieldType.object "OldBottles$Wine")) 0 := ⟨tb_at 811 (by decide +kernel) (by decide +kernel), tb_at 812 (by decide +kernel) (by decide +kernel), tb_at 88 (by decide +kernel) (by decide +kernel), tb_at 813 (by decide +kernel) (by decide +kernel), by decide +kernel, by decide⟩
theorem mf_X7_judge : MV yX7_judge cX7_judge 5 (none : Option FieldType) 4 := ⟨tb_at 816 (by decide +kernel) (by decide +kernel), tb_at 817 (by decide +kernel) (by decide +kernel), tb_at 76 (by decide +kernel) (by decide +kernel), tb_at 818 (by decide +kernel) (by decide +kernel), by decide +kernel, by decide⟩
theorem mf_X9_tongue : MV yX9_tongue cX9_tongue 4 (some FieldType.int) 2 := ⟨tb_at 820 (by decide +kernel) (by decide +kernel), tb_at 821 (by decide +kernel) (by decide +kernel), tb_at 70 (by decide +kernel) (by decide +kernel), tb_at 822 (by decide +kernel) (by decide +kernel), by decide +kernel, by decide⟩
theorem mf_X9_opened : MV yX9_opened cX9_opened 11 (some FieldType.int) 2 := ⟨tb_at 824 (by decide +kernel) (by decide +kernel), tb_at 825 (by decide +kernel) (by decide +kernel), tb_at 70 (by decide +kernel) (by decide +kernel), tb_at 826 (by decide +kernel) (by decide +kernel), by decide +kernel, by decide⟩
theorem mf_X9_weighDoubts : MV yX9_weighDoubts cX9_weighDoubts 4 (some FieldType.int) 0 := ⟨tb_at 829 (by decide +kernel) (by decide +kernel), tb_at 25 (by decide +kernel) (by decide +kernel), tb_at 70 (by decide +kernel) (by decide +kernel), tb_at 830 (by decide +kernel) (by decide +kernel), by decide +kernel, by decide⟩
theorem mf_X9_lowestBit : MS yX9_lowestBit cX9_lowestBit 2 (some FieldType.int) 1 := ⟨tb_at 832 (by decide +kernel) (by decide +kernel), tb_at 70 (by decide +kernel) (by decide +kernel), tb_at 833 (by decide +kernel) (by decide +kernel), by decide +kernel, by decide⟩
theorem mf_X9_sumBelow : MS yX9_sumBelow cX9_sumBelow 4 (some FieldType.int) 2 := ⟨tb_at 835 (by decide +kernel) (by decide +kernel), tb_at 70 (by decide +kernel) (by decide +kernel), tb_at 836 (by decide +kernel) (by decide +kernel), by decide +kernel, by decide⟩
theorem mf_X9_owed : MV yX9_owed cX9_owed 7 (some FieldType.long) 1 := ⟨tb_at 838 (by decide +kernel) (by decide +kernel), tb_at 839 (by decide +kernel) (by decide +kernel), tb_at 70 (by decide +kernel) (by decide +kernel), tb_at 840 (by decide +kernel) (by decide +kernel), by decide +kernel, by decide⟩
theorem mf_X9_chain : MV yX9_chain cX9_chain 3 (some FieldType.int) 1 := ⟨tb_at 842 (by decide +kernel) (by decide +kernel), tb_at 843 (by decide +kernel) (by decide +kernel), tb_at 70 (by decide +kernel) (by decide +kernel), tb_at 844 (by decide +kernel) (by decide +kernel), by decide +kernel, by decide⟩
theorem mf_X9_falls : MV yX9_falls cX9_falls 9 (some FieldType.long) 2 := ⟨tb_at 846 (by decide +kernel) (by decide +kernel), tb_at 847 (by decide +kernel) (by decide +kernel), tb_at 70 (by decide +kernel) (by decide +kernel), tb_at 848 (by decide +kernel) (by decide +kernel), by decide +kernel, by decide⟩
theorem mf_X3_handsOf : MV yX3_handsOf cX3_handsOf 4 (some FieldType.int) 1 := ⟨tb_at 850 (by decide +kernel) (by decide +kernel), tb_at 851 (by decide +kernel) (by decide +kernel), tb_at 73 (by decide +kernel) (by decide +kernel), tb_at 852 (by decide +kernel) (by decide +kernel), by decide +kernel, by decide⟩
theorem mf_X3_bottlesOf : MV yX3_bottlesOf cX3_bottlesOf 4 (some FieldType.int) 1 := ⟨tb_at 854 (by decide +kernel) (by decide +kernel), tb_at 855 (by decide +kernel) (by decide +kernel), tb_at 73 (by decide +kernel) (by decide +kernel), tb_at 856 (by decide +kernel) (by decide +kernel), by decide +kernel, by decide⟩
theorem mf_X9_saw : MV yX9_saw cX9_saw 4 (some FieldType.int) 1 := ⟨tb_at 859 (by decide +kernel) (by decide +kernel), tb_at 860 (by decide +kernel) (by decide +kernel), tb_at 70 (by decide +kernel) (by decide +kernel), tb_at 861 (by decide +kernel) (by decide +kernel), by decide +kernel, by decide⟩
theorem mf_X9_image : MV yX9_image cX9_image 3 (some FieldType.int) 0 := ⟨tb_at 863 (by decide +kernel) (by decide +kernel), tb_at 864 (by decide +kernel) (by decide +kernel), tb_at 70 (by decide +kernel) (by decide +kernel), tb_at 865 (by decide +kernel) (by decide +kernel), by decide +kernel, by decide⟩
theorem mf_X0_become : MV yX0_become cX0_become 2 (none : Option FieldType) 1 := ⟨tb_at 867 (by decide +kernel) (by decide +kernel), tb_at 868 (by decide +kernel) (by decide +kernel), tb_at 71 (by decide +kernel) (by decide +kernel), tb_at 869 (by decide +kernel) (by decide +kernel), by decide +kernel, by decide⟩
theorem mf_X9_back : MV yX9_back cX9_back 3 (some FieldType.int) 0 := ⟨tb_at 872 (by decide +kernel) (by decide +kernel), tb_at 873 (by decide +kernel) (by decide +kernel), tb_at 70 (by decide +kernel) (by decide +kernel), tb_at 874 (by decide +kernel) (by decide +kernel), by decide +kernel, by decide⟩
theorem mf_X9_passOnAgain : MV yX9_passOnAgain cX9_passOnAgain 3 (none : Option FieldType) 0 := ⟨tb_at 877 (by decide +kernel) (by decide +kernel), tb_at 26 (by decide +kernel) (by decide +kernel), tb_at 70 (by decide +kernel) (by decide +kernel), tb_at 878 (by decide +kernel) (by decide +kernel), by decide +kernel, by decide⟩
theorem mf_X1_forgetSales : MV yX1_forgetSales cX1_forgetSales 1 (none : Option FieldType) 0 := ⟨tb_at 880 (by decide +kernel) (by decide +kernel), tb_at 881 (by decide +kernel) (by decide +kernel), tb_at 88 (by decide +kernel) (by decide +kernel), tb_at 882 (by decide +kernel) (by decide +kernel), by decide +kernel, by decide⟩
theorem mf_X9_count : MV yX9_count cX9_count 2 (some FieldType.int) 1 := ⟨tb_at 884 (by decide +kernel) (by decide +kernel), tb_at 885 (by decide +kernel) (by decide +kernel), tb_at 70 (by decide +kernel) (by decide +kernel), tb_at 886 (by decide +kernel) (by decide +kernel), by decide +kernel, by decide⟩
theorem mf_X9_barredBottles : MV yX9_barredBottles cX9_barredBottles 3 (some FieldType.int) 0 := ⟨tb_at 889 (by decide +kernel) (by decide +kernel), tb_at 27 (by decide +kernel) (by decide +kernel), tb_at 70 (by decide +kernel) (by decide +kernel), tb_at 890 (by decide +kernel) (by decide +kernel), by decide +kernel, by decide⟩
theorem mf_X9_soldBottles : MV yX9_soldBottles cX9_soldBottles 4 (some FieldType.int) 0 := ⟨tb_at 893 (by decide +kernel) (by decide +kernel), tb_at 28 (by decide +kernel) (by decide +kernel), tb_at 70 (by decide +kernel) (by decide +kernel), tb_at 894 (by decide +kernel) (by decide +kernel), by decide +kernel, by decide⟩
theorem mf_X9_sheet : MV yX9_sheet cX9_sheet 5 (some FieldType.int) 3 := ⟨tb_at 896 (by decide +kernel) (by decide +kernel), tb_at 897 (by decide +kernel) (by decide +kernel), tb_at 70 (by decide +kernel) (by decide +kernel), tb_at 898 (by decide +kernel) (by decide +kernel), by decide +kernel, by decide⟩
theorem mf_X9_sheetAt : MV yX9_sheetAt cX9_sheetAt 2 (some (FieldType.object "OldBottles$Sheet")) 1 := ⟨tb_at 901 (by decide +kernel) (by decide +kernel), tb_at 29 (by decide +kernel) (by decide +kernel), tb_at 70 (by decide +kernel) (by decide +kernel), tb_at 902 (by decide +kernel) (by decide +kernel), by decide +kernel, by decide⟩
theorem mf_X6_become : MV yX6_become cX6_become 3 (none : Option FieldType) 2 := ⟨tb_at 904 (by decide +kernel) (by decide +kernel), tb_at 905 (by decide +kernel) (by decide +kernel), tb_at 77 (by decide +kernel) (by decide +kernel), tb_at 906 (by decide +kernel) (by decide +kernel), by decide +kernel, by decide⟩
theorem mf_X9_cell : MV yX9_cell cX9_cell 5 (some FieldType.int) 3 := ⟨tb_at 909 (by decide +kernel) (by decide +kernel), tb_at 910 (by decide +kernel) (by decide +kernel), tb_at 70 (by decide +kernel) (by decide +kernel), tb_at 911 (by decide +kernel) (by decide +kernel), by decide +kernel, by decide⟩
theorem mf_X6_cut : MV yX6_cut cX6_cut 2 (some FieldType.int) 1 := ⟨tb_at 913 (by decide +kernel) (by decide +kernel), tb_at 914 (by decide +kernel) (by decide +kernel), tb_at 77 (by decide +kernel) (by decide +kernel), tb_at 915 (by decide +kernel) (by decide +kernel), by decide +kernel, by decide⟩
theorem mf_X9_copy : MV yX9_copy cX9_copy 8 (some FieldType.int) 5 := ⟨tb_at 917 (by decide +kernel) (by decide +kernel), tb_at 918 (by decide +kernel) (by decide +kernel), tb_at 70 (by decide +kernel) (by decide +kernel), tb_at 919 (by decide +kernel) (by decide +kernel), by decide +kernel, by decide⟩
theorem mf_X6_has : MV yX6_has cX6_has 3 (some FieldType.boolean) 2 := ⟨tb_at 921 (by decide +kernel) (by decide +kernel), tb_at 922 (by decide +kernel) (by decide +kernel), tb_at 77 (by decide +kernel) (by decide +kernel), tb_at 923 (by decide +kernel) (by decide +kernel), by decide +kernel, by decide⟩
theorem mf_X9_sales : MV yX9_sales cX9_sales 9 (some FieldType.int) 4 := ⟨tb_at 926 (by decide +kernel) (by decide +kernel), tb_at 927 (by decide +kernel) (by decide +kernel), tb_at 70 (by decide +kernel) (by decide +kernel), tb_at 928 (by decide +kernel) (by decide +kernel), by decide +kernel, by decide⟩
theorem mf_X9_taken : MV yX9_taken cX9_taken 4 (some FieldType.int) 2 := ⟨tb_at 931 (by decide +kernel) (by decide +kernel), tb_at 932 (by decide +kernel) (by decide +kernel), tb_at 70 (by decide +kernel) (by decide +kernel), tb_at 933 (by decide +kernel) (by decide +kernel), by decide +kernel, by decide⟩
theorem mf_X10_init : MI yX10_init cX10_init 2 0 := ⟨rfl, tb_at 937 (by decide +kernel) (by decide +kernel), tb_at 86 (by decide +kernel) (by decide +kernel), tb_at 938 (by decide +kernel) (by decide +kernel), by decide +kernel, by decide⟩
theorem mf_X10_spell : MV yX10_spell cX10_spell 5 (none : Option FieldType) 2 := ⟨tb_at 943 (by decide +kernel) (by decide +kernel), tb_at 30 (by decide +kernel) (by decide +kernel), tb_at 86 (by decide +kernel) (by decide +kernel), tb_at 944 (by decide +kernel) (by decide +kernel), by decide +kernel, by decide⟩
theorem mf_X10_wine : MV yX10_wine cX10_wine 5 (some FieldType.int) 4 := ⟨tb_at 1137 (by decide +kernel) (by decide +kernel), tb_at 1138 (by decide +kernel) (by decide +kernel), tb_at 86 (by decide +kernel) (by decide +kernel), tb_at 1139 (by decide +kernel) (by decide +kernel), by decide +kernel, by decide⟩
theorem mf_X10_in : MS yX10_in cX10_in 6 (some FieldType.boolean) 3 := ⟨tb_at 1142 (by decide +kernel) (by decide +kernel), tb_at 86 (by decide +kernel) (by decide +kernel), tb_at 1143 (by decide +kernel) (by decide +kernel), by decide +kernel, by decide⟩
theorem mf_X10_areParts : MS yX10_areParts cX10_areParts 1 (some FieldType.boolean) 1 := ⟨tb_at 1146 (by decide +kernel) (by decide +kernel), tb_at 86 (by decide +kernel) (by decide +kernel), tb_at 1147 (by decide +kernel) (by decide +kernel), by decide +kernel, by decide⟩
theorem mf_X10_drunk : MV yX10_drunk cX10_drunk 4 (some FieldType.int) 2 := ⟨tb_at 1151 (by decide +kernel) (by decide +kernel), tb_at 1152 (by decide +kernel) (by decide +kernel), tb_at 86 (by decide +kernel) (by decide +kernel), tb_at 1153 (by decide +kernel) (by decide +kernel), by decide +kernel, by decide⟩
theorem mf_X10_isWine : MV yX10_isWine cX10_isWine 2 (some FieldType.boolean) 1 := ⟨tb_at 1156 (by decide +kernel) (by decide +kernel), tb_at 31 (by decide +kernel) (by decide +kernel), tb_at 86 (by decide +kernel) (by decide +kernel), tb_at 1157 (by decide +kernel) (by decide +kernel), by decide +kernel, by decide⟩
theorem mf_X10_book : MV yX10_book cX10_book 5 (some FieldType.int) 4 := ⟨tb_at 1159 (by decide +kernel) (by decide +kernel), tb_at 1160 (by decide +kernel) (by decide +kernel), tb_at 86 (by decide +kernel) (by decide +kernel), tb_at 1161 (by decide +kernel) (by decide +kernel), by decide +kernel, by decide⟩
theorem mf_X10_test : MV yX10_test cX10_test 4 (some FieldType.int) 2 := ⟨tb_at 1165 (by decide +kernel) (by decide +kernel), tb_at 1166 (by decide +kernel) (by decide +kernel), tb_at 86 (by decide +kernel) (by decide +kernel), tb_at 1167 (by decide +kernel) (by decide +kernel), by decide +kernel, by decide⟩
theorem mf_X10_bottle : MV yX10_bottle cX10_bottle 4 (some FieldType.int) 3 := ⟨tb_at 1170 (by decide +kernel) (by decide +kernel), tb_at 1171 (by decide +kernel) (by decide +kernel), tb_at 86 (by decide +kernel) (by decide +kernel), tb_at 1172 (by decide +kernel) (by decide +kernel), by decide +kernel, by decide⟩
theorem mf_X10_shows : MV yX10_shows cX10_shows 3 (some FieldType.int) 2 := ⟨tb_at 1175 (by decide +kernel) (by decide +kernel), tb_at 1176 (by decide +kernel) (by decide +kernel), tb_at 86 (by decide +kernel) (by decide +kernel), tb_at 1177 (by decide +kernel) (by decide +kernel), by decide +kernel, by decide⟩
theorem mf_X10_isBottle : MV yX10_isBottle cX10_isBottle 2 (some FieldType.boolean) 1 := ⟨tb_at 1180 (by decide +kernel) (by decide +kernel), tb_at 32 (by decide +kernel) (by decide +kernel), tb_at 86 (by decide +kernel) (by decide +kernel), tb_at 1181 (by decide +kernel) (by decide +kernel), by decide +kernel, by decide⟩
theorem mf_X10_showsOf : MV yX10_showsOf cX10_showsOf 5 (some FieldType.int) 2 := ⟨tb_at 1184 (by decide +kernel) (by decide +kernel), tb_at 33 (by decide +kernel) (by decide +kernel), tb_at 86 (by decide +kernel) (by decide +kernel), tb_at 1185 (by decide +kernel) (by decide +kernel), by decide +kernel, by decide⟩
theorem mf_X10_partOf : MS yX10_partOf cX10_partOf 2 (some FieldType.int) 2 := ⟨tb_at 1187 (by decide +kernel) (by decide +kernel), tb_at 86 (by decide +kernel) (by decide +kernel), tb_at 1188 (by decide +kernel) (by decide +kernel), by decide +kernel, by decide⟩
theorem mf_X10_tastesOf : MV yX10_tastesOf cX10_tastesOf 5 (some FieldType.int) 2 := ⟨tb_at 1191 (by decide +kernel) (by decide +kernel), tb_at 34 (by decide +kernel) (by decide +kernel), tb_at 86 (by decide +kernel) (by decide +kernel), tb_at 1192 (by decide +kernel) (by decide +kernel), by decide +kernel, by decide⟩
theorem mf_X10_tasteOf : MV yX10_tasteOf cX10_tasteOf 3 (some FieldType.int) 2 := ⟨tb_at 1195 (by decide +kernel) (by decide +kernel), tb_at 35 (by decide +kernel) (by decide +kernel), tb_at 86 (by decide +kernel) (by decide +kernel), tb_at 1196 (by decide +kernel) (by decide +kernel), by decide +kernel, by decide⟩
theorem mf_X10_told : MV yX10_told cX10_told 3 (some FieldType.int) 2 := ⟨tb_at 1198 (by decide +kernel) (by decide +kernel), tb_at 1199 (by decide +kernel) (by decide +kernel), tb_at 86 (by decide +kernel) (by decide +kernel), tb_at 1200 (by decide +kernel) (by decide +kernel), by decide +kernel, by decide⟩
theorem mf_X10_barsOf : MV yX10_barsOf cX10_barsOf 2 (some FieldType.int) 1 := ⟨tb_at 1203 (by decide +kernel) (by decide +kernel), tb_at 36 (by decide +kernel) (by decide +kernel), tb_at 86 (by decide +kernel) (by decide +kernel), tb_at 1204 (by decide +kernel) (by decide +kernel), by decide +kernel, by decide⟩
theorem mf_X10_bars : MV yX10_bars cX10_bars 4 (some FieldType.boolean) 2 := ⟨tb_at 1207 (by decide +kernel) (by decide +kernel), tb_at 37 (by decide +kernel) (by decide +kernel), tb_at 86 (by decide +kernel) (by decide +kernel), tb_at 1208 (by decide +kernel) (by decide +kernel), by decide +kernel, by decide⟩
theorem mf_X10_oddsOf : MV yX10_oddsOf cX10_oddsOf 2 (some FieldType.int) 1 := ⟨tb_at 1211 (by decide +kernel) (by decide +kernel), tb_at 38 (by decide +kernel) (by decide +kernel), tb_at 86 (by decide +kernel) (by decide +kernel), tb_at 1212 (by decide +kernel) (by decide +kernel), by decide +kernel, by decide⟩
theorem mf_X10_isOdd : MV yX10_isOdd cX10_isOdd 3 (some FieldType.boolean) 2 := ⟨tb_at 1215 (by decide +kernel) (by decide +kernel), tb_at 39 (by decide +kernel) (by decide +kernel), tb_at 86 (by decide +kernel) (by decide +kernel), tb_at 1216 (by decide +kernel) (by decide +kernel), by decide +kernel, by decide⟩
theorem mf_X10_isBarred : MV yX10_isBarred cX10_isBarred 2 (some FieldType.boolean) 1 := ⟨tb_at 1219 (by decide +kernel) (by decide +kernel), tb_at 40 (by decide +kernel) (by decide +kernel), tb_at 86 (by decide +kernel) (by decide +kernel), tb_at 1220 (by decide +kernel) (by decide +kernel), by decide +kernel, by decide⟩
theorem mf_X10_gapOf : MV yX10_gapOf cX10_gapOf 5 (some FieldType.int) 1 := ⟨tb_at 1223 (by decide +kernel) (by decide +kernel), tb_at 41 (by decide +kernel) (by decide +kernel), tb_at 86 (by decide +kernel) (by decide +kernel), tb_at 1224 (by decide +kernel) (by decide +kernel), by decide +kernel, by decide⟩
theorem mf_X10_lastOf : MV yX10_lastOf cX10_lastOf 4 (some FieldType.int) 2 := ⟨tb_at 1227 (by decide +kernel) (by decide +kernel), tb_at 42 (by decide +kernel) (by decide +kernel), tb_at 86 (by decide +kernel) (by decide +kernel), tb_at 1228 (by decide +kernel) (by decide +kernel), by decide +kernel, by decide⟩
theorem mf_X10_weightOf : MS yX10_weightOf cX10_weightOf 1 (some FieldType.int) 1 := ⟨tb_at 1230 (by decide +kernel) (by decide +kernel), tb_at 86 (by decide +kernel) (by decide +kernel), tb_at 1231 (by decide +kernel) (by decide +kernel), by decide +kernel, by decide⟩
theorem mf_X10_ownerOf : MV yX10_ownerOf cX10_ownerOf 3 (some FieldType.int) 1 := ⟨tb_at 1234 (by decide +kernel) (by decide +kernel), tb_at 43 (by decide +kernel) (by decide +kernel), tb_at 86 (by decide +kernel) (by decide +kernel), tb_at 1235 (by decide +kernel) (by decide +kernel), by decide +kernel, by decide⟩
theorem mf_X10_doubtOf : MV yX10_doubtOf cX10_doubtOf 2 (some FieldType.int) 1 := ⟨tb_at 1238 (by decide +kernel) (by decide +kernel), tb_at 44 (by decide +kernel) (by decide +kernel), tb_at 86 (by decide +kernel) (by decide +kernel), tb_at 1239 (by decide +kernel) (by decide +kernel), by decide +kernel, by decide⟩
theorem mf_X10_saysOf : MV yX10_saysOf cX10_saysOf 3 (some FieldType.int) 2 := ⟨tb_at 1242 (by decide +kernel) (by decide +kernel), tb_at 45 (by decide +kernel) (by decide +kernel), tb_at 86 (by decide +kernel) (by decide +kernel), tb_at 1243 (by decide +kernel) (by decide +kernel), by decide +kernel, by decide⟩
theorem mf_X10_bitsOf : MS yX10_bitsOf cX10_bitsOf 3 (some FieldType.int) 1 := ⟨tb_at 1245 (by decide +kernel) (by decide +kernel), tb_at 86 (by decide +kernel) (by decide +kernel), tb_at 1246 (by decide +kernel) (by decide +kernel), by decide +kernel, by decide⟩
theorem mf_X10_soldOf : MV yX10_soldOf cX10_soldOf 4 (some FieldType.int) 1 := ⟨tb_at 1249 (by decide +kernel) (by decide +kernel), tb_at 46 (by decide +kernel) (by decide +kernel), tb_at 86 (by decide +kernel) (by decide +kernel), tb_at 1250 (by decide +kernel) (by decide +kernel), by decide +kernel, by decide⟩
theorem mf_X10_read : MV yX10_read cX10_read 6 (some FieldType.int) 2 := ⟨tb_at 1253 (by decide +kernel) (by decide +kernel), tb_at 47 (by decide +kernel) (by decide +kernel), tb_at 86 (by decide +kernel) (by decide +kernel), tb_at 1254 (by decide +kernel) (by decide +kernel), by decide +kernel, by decide⟩
theorem mf_X10_next : MV yX10_next cX10_next 3 (none : Option FieldType) 0 := ⟨tb_at 1257 (by decide +kernel) (by decide +kernel), tb_at 48 (by decide +kernel) (by decide +kernel), tb_at 86 (by decide +kernel) (by decide +kernel), tb_at 1258 (by decide +kernel) (by decide +kernel), by decide +kernel, by decide⟩
theorem mf_X10_byteAt : MV yX10_byteAt cX10_byteAt 2 (some FieldType.int) 1 := ⟨tb_at 1261 (by decide +kernel) (by decide +kernel), tb_at 49 (by decide +kernel) (by decide +kernel), tb_at 86 (by decide +kernel) (by decide +kernel), tb_at 1262 (by decide +kernel) (by decide +kernel), by decide +kernel, by decide⟩
theorem mf_X10_part : MV yX10_part cX10_part 4 (some FieldType.int) 1 := ⟨tb_at 1274 (by decide +kernel) (by decide +kernel), tb_at 50 (by decide +kernel) (by decide +kernel), tb_at 86 (by decide +kernel) (by decide +kernel), tb_at 1275 (by decide +kernel) (by decide +kernel), by decide +kernel, by decide⟩
theorem mf_X10_isWord : MV yX10_isWord cX10_isWord 3 (some FieldType.boolean) 1 := ⟨tb_at 1278 (by decide +kernel) (by decide +kernel), tb_at 51 (by decide +kernel) (by decide +kernel), tb_at 86 (by decide +kernel) (by decide +kernel), tb_at 1279 (by decide +kernel) (by decide +kernel), by decide +kernel, by decide⟩
theorem mf_X10_fail : MV yX10_fail cX10_fail 1 (none : Option FieldType) 0 := ⟨tb_at 1282 (by decide +kernel) (by decide +kernel), tb_at 52 (by decide +kernel) (by decide +kernel), tb_at 86 (by decide +kernel) (by decide +kernel), tb_at 1283 (by decide +kernel) (by decide +kernel), by decide +kernel, by decide⟩
theorem mf_X10_either : MV yX10_either cX10_either 3 (some FieldType.int) 0 := ⟨tb_at 1286 (by decide +kernel) (by decide +kernel), tb_at 53 (by decide +kernel) (by decide +kernel), tb_at 86 (by decide +kernel) (by decide +kernel), tb_at 1287 (by decide +kernel) (by decide +kernel), by decide +kernel, by decide⟩
theorem mf_X10_both : MV yX10_both cX10_both 3 (some FieldType.int) 0 := ⟨tb_at 1290 (by decide +kernel) (by decide +kernel), tb_at 54 (by decide +kernel) (by decide +kernel), tb_at 86 (by decide +kernel) (by decide +kernel), tb_at 1291 (by decide +kernel) (by decide +kernel), by decide +kernel, by decide⟩
theorem mf_X10_not : MV yX10_not cX10_not 4 (some FieldType.int) 0 := ⟨tb_at 1294 (by decide +kernel) (by decide +kernel), tb_at 55 (by decide +kernel) (by decide +kernel), tb_at 86 (by decide +kernel) (by decide +kernel), tb_at 1295 (by decide +kernel) (by decide +kernel), by decide +kernel, by decide⟩
theorem mf_X10_opens : MV yX10_opens cX10_opens 1 (some FieldType.boolean) 0 := ⟨tb_at 1299 (by decide +kernel) (by decide +kernel), tb_at 56 (by decide +kernel) (by decide +kernel), tb_at 86 (by decide +kernel) (by decide +kernel), tb_at 1300 (by decide +kernel) (by decide +kernel), by decide +kernel, by decide⟩
theorem mf_X10_added : MV yX10_added cX10_added 4 (some FieldType.int) 0 := ⟨tb_at 1303 (by decide +kernel) (by decide +kernel), tb_at 57 (by decide +kernel) (by decide +kernel), tb_at 86 (by decide +kernel) (by decide +kernel), tb_at 1304 (by decide +kernel) (by decide +kernel), by decide +kernel, by decide⟩
theorem mf_X10_term : MV yX10_term cX10_term 2 (some FieldType.int) 0 := ⟨tb_at 1307 (by decide +kernel) (by decide +kernel), tb_at 58 (by decide +kernel) (by decide +kernel), tb_at 86 (by decide +kernel) (by decide +kernel), tb_at 1308 (by decide +kernel) (by decide +kernel), by decide +kernel, by decide⟩
theorem mf_X10_one : MV yX10_one cX10_one 2 (some FieldType.int) 0 := ⟨tb_at 1311 (by decide +kernel) (by decide +kernel), tb_at 59 (by decide +kernel) (by decide +kernel), tb_at 86 (by decide +kernel) (by decide +kernel), tb_at 1312 (by decide +kernel) (by decide +kernel), by decide +kernel, by decide⟩
theorem mf_X10_isSign : MV yX10_isSign cX10_isSign 2 (some FieldType.boolean) 1 := ⟨tb_at 1315 (by decide +kernel) (by decide +kernel), tb_at 60 (by decide +kernel) (by decide +kernel), tb_at 86 (by decide +kernel) (by decide +kernel), tb_at 1316 (by decide +kernel) (by decide +kernel), by decide +kernel, by decide⟩
theorem mf_X10_name : MV yX10_name cX10_name 1 (some FieldType.int) 0 := ⟨tb_at 1319 (by decide +kernel) (by decide +kernel), tb_at 61 (by decide +kernel) (by decide +kernel), tb_at 86 (by decide +kernel) (by decide +kernel), tb_at 1320 (by decide +kernel) (by decide +kernel), by decide +kernel, by decide⟩
theorem mf_X10_within : MS yX10_within cX10_within 3 (some FieldType.int) 3 := ⟨tb_at 1334 (by decide +kernel) (by decide +kernel), tb_at 86 (by decide +kernel) (by decide +kernel), tb_at 1335 (by decide +kernel) (by decide +kernel), by decide +kernel, by decide⟩
theorem mf_X10_priceOf : MV yX10_priceOf cX10_priceOf 2 (some FieldType.int) 1 := ⟨tb_at 1338 (by decide +kernel) (by decide +kernel), tb_at 62 (by decide +kernel) (by decide +kernel), tb_at 86 (by decide +kernel) (by decide +kernel), tb_at 1339 (by decide +kernel) (by decide +kernel), by decide +kernel, by decide⟩
theorem mf_X10_openOf : MV yX10_openOf cX10_openOf 2 (some FieldType.int) 1 := ⟨tb_at 1342 (by decide +kernel) (by decide +kernel), tb_at 63 (by decide +kernel) (by decide +kernel), tb_at 86 (by decide +kernel) (by decide +kernel), tb_at 1343 (by decide +kernel) (by decide +kernel), by decide +kernel, by decide⟩
theorem mf_X10_sale : MV yX10_sale cX10_sale 6 (some FieldType.int) 4 := ⟨tb_at 1345 (by decide +kernel) (by decide +kernel), tb_at 1346 (by decide +kernel) (by decide +kernel), tb_at 86 (by decide +kernel) (by decide +kernel), tb_at 1347 (by decide +kernel) (by decide +kernel), by decide +kernel, by decide⟩
theorem mf_X10_feed : MV yX10_feed cX10_feed 5 (some FieldType.int) 2 := ⟨tb_at 1350 (by decide +kernel) (by decide +kernel), tb_at 1351 (by decide +kernel) (by decide +kernel), tb_at 86 (by decide +kernel) (by decide +kernel), tb_at 1352 (by decide +kernel) (by decide +kernel), by decide +kernel, by decide⟩
theorem mf_X10_text : MV yX10_text cX10_text 2 (some FieldType.int) 0 := ⟨tb_at 1355 (by decide +kernel) (by decide +kernel), tb_at 1356 (by decide +kernel) (by decide +kernel), tb_at 86 (by decide +kernel) (by decide +kernel), tb_at 1357 (by decide +kernel) (by decide +kernel), by decide +kernel, by decide⟩
theorem mf_X10_force : MV yX10_force cX10_force 3 (some FieldType.int) 1 := ⟨tb_at 1359 (by decide +kernel) (by decide +kernel), tb_at 1360 (by decide +kernel) (by decide +kernel), tb_at 86 (by decide +kernel) (by decide +kernel), tb_at 1361 (by decide +kernel) (by decide +kernel), by decide +kernel, by decide⟩
theorem mf_X10_left : MV yX10_left cX10_left 5 (some FieldType.int) 2 := ⟨tb_at 1363 (by decide +kernel) (by decide +kernel), tb_at 1364 (by decide +kernel) (by decide +kernel), tb_at 86 (by decide +kernel) (by decide +kernel), tb_at 1365 (by decide +kernel) (by decide +kernel), by decide +kernel, by decide⟩
theorem mf_X10_odds : MV yX10_odds cX10_odds 10 (some FieldType.long) 2 := ⟨tb_at 1367 (by decide +kernel) (by decide +kernel), tb_at 1368 (by decide +kernel) (by decide +kernel), tb_at 86 (by decide +kernel) (by decide +kernel), tb_at 1369 (by decide +kernel) (by decide +kernel), by decide +kernel, by decide⟩
theorem mf_X10_common : MS yX10_common cX10_common 10 (some FieldType.long) 2 := ⟨tb_at 1372 (by decide +kernel) (by decide +kernel), tb_at 86 (by decide +kernel) (by decide +kernel), tb_at 1373 (by decide +kernel) (by decide +kernel), by decide +kernel, by decide⟩
theorem mf_X10_source : MV yX10_source cX10_source 3 (some FieldType.int) 2 := ⟨tb_at 1375 (by decide +kernel) (by decide +kernel), tb_at 1376 (by decide +kernel) (by decide +kernel), tb_at 86 (by decide +kernel) (by decide +kernel), tb_at 1377 (by decide +kernel) (by decide +kernel), by decide +kernel, by decide⟩
theorem mf_X10_isHand : MS yX10_isHand cX10_isHand 1 (some FieldType.boolean) 1 := ⟨tb_at 1379 (by decide +kernel) (by decide +kernel), tb_at 86 (by decide +kernel) (by decide +kernel), tb_at 1380 (by decide +kernel) (by decide +kernel), by decide +kernel, by decide⟩
theorem mf_X10_salesBy : MV yX10_salesBy cX10_salesBy 4 (some FieldType.int) 1 := ⟨tb_at 1384 (by decide +kernel) (by decide +kernel), tb_at 64 (by decide +kernel) (by decide +kernel), tb_at 86 (by decide +kernel) (by decide +kernel), tb_at 1385 (by decide +kernel) (by decide +kernel), by decide +kernel, by decide⟩
theorem mf_X10_barredBy : MV yX10_barredBy cX10_barredBy 4 (some FieldType.int) 1 := ⟨tb_at 1388 (by decide +kernel) (by decide +kernel), tb_at 65 (by decide +kernel) (by decide +kernel), tb_at 86 (by decide +kernel) (by decide +kernel), tb_at 1389 (by decide +kernel) (by decide +kernel), by decide +kernel, by decide⟩
theorem mf_X10_worst : MV yX10_worst cX10_worst 5 (some FieldType.int) 0 := ⟨tb_at 1391 (by decide +kernel) (by decide +kernel), tb_at 1392 (by decide +kernel) (by decide +kernel), tb_at 86 (by decide +kernel) (by decide +kernel), tb_at 1393 (by decide +kernel) (by decide +kernel), by decide +kernel, by decide⟩
theorem mf_X10_mix : MV yX10_mix cX10_mix 7 (some FieldType.int) 4 := ⟨tb_at 1395 (by decide +kernel) (by decide +kernel), tb_at 1396 (by decide +kernel) (by decide +kernel), tb_at 86 (by decide +kernel) (by decide +kernel), tb_at 1397 (by decide +kernel) (by decide +kernel), by decide +kernel, by decide⟩
theorem mf_X10_farOf : MV yX10_farOf cX10_farOf 8 (some FieldType.int) 4 := ⟨tb_at 1400 (by decide +kernel) (by decide +kernel), tb_at 66 (by decide +kernel) (by decide +kernel), tb_at 86 (by decide +kernel) (by decide +kernel), tb_at 1401 (by decide +kernel) (by decide +kernel), by decide +kernel, by decide⟩
theorem mf_X10_said : MV yX10_said cX10_said 5 (some FieldType.int) 4 := ⟨tb_at 1403 (by decide +kernel) (by decide +kernel), tb_at 1404 (by decide +kernel) (by decide +kernel), tb_at 86 (by decide +kernel) (by decide +kernel), tb_at 1405 (by decide +kernel) (by decide +kernel), by decide +kernel, by decide⟩
theorem mf_X10_isTongue : MS yX10_isTongue cX10_isTongue 1 (some FieldType.boolean) 1 := ⟨tb_at 1407 (by decide +kernel) (by decide +kernel), tb_at 86 (by decide +kernel) (by decide +kernel), tb_at 1408 (by decide +kernel) (by decide +kernel), by decide +kernel, by decide⟩
theorem mf_X10_tongue : MV yX10_tongue cX10_tongue 9 (some FieldType.int) 2 := ⟨tb_at 1410 (by decide +kernel) (by decide +kernel), tb_at 1411 (by decide +kernel) (by decide +kernel), tb_at 86 (by decide +kernel) (by decide +kernel), tb_at 1412 (by decide +kernel) (by decide +kernel), by decide +kernel, by decide⟩
theorem mf_X10_withinOf : MV yX10_withinOf cX10_withinOf 2 (some FieldType.int) 1 := ⟨tb_at 1415 (by decide +kernel) (by decide +kernel), tb_at 67 (by decide +kernel) (by decide +kernel), tb_at 86 (by decide +kernel) (by decide +kernel), tb_at 1416 (by decide +kernel) (by decide +kernel), by decide +kernel, by decide⟩
theorem mf_X10_opened : MV yX10_opened cX10_opened 11 (some FieldType.int) 2 := ⟨tb_at 1418 (by decide +kernel) (by decide +kernel), tb_at 1419 (by decide +kernel) (by decide +kernel), tb_at 86 (by decide +kernel) (by decide +kernel), tb_at 1420 (by decide +kernel) (by decide +kernel), by decide +kernel, by decide⟩
theorem mf_X10_owed : MV yX10_owed cX10_owed 5 (some FieldType.long) 1 := ⟨tb_at 1422 (by decide +kernel) (by decide +kernel), tb_at 1423 (by decide +kernel) (by decide +kernel), tb_at 86 (by decide +kernel) (by decide +kernel), tb_at 1424 (by decide +kernel) (by decide +kernel), by decide +kernel, by decide⟩
theorem mf_X10_chain : MV yX10_chain cX10_chain 5 (some FieldType.int) 1 := ⟨tb_at 1426 (by decide +kernel) (by decide +kernel), tb_at 1427 (by decide +kernel) (by decide +kernel), tb_at 86 (by decide +kernel) (by decide +kernel), tb_at 1428 (by decide +kernel) (by decide +kernel), by decide +kernel, by decide⟩
theorem mf_X10_falls : MV yX10_falls cX10_falls 7 (some FieldType.long) 2 := ⟨tb_at 1430 (by decide +kernel) (by decide +kernel), tb_at 1431 (by decide +kernel) (by decide +kernel), tb_at 86 (by decide +kernel) (by decide +kernel), tb_at 1432 (by decide +kernel) (by decide +kernel), by decide +kernel, by decide⟩
theorem mf_X10_handsOf : MV yX10_handsOf cX10_handsOf 4 (some FieldType.int) 1 := ⟨tb_at 1435 (by decide +kernel) (by decide +kernel), tb_at 68 (by decide +kernel) (by decide +kernel), tb_at 86 (by decide +kernel) (by decide +kernel), tb_at 1436 (by decide +kernel) (by decide +kernel), by decide +kernel, by decide⟩
theorem mf_X10_saw : MV yX10_saw cX10_saw 4 (some FieldType.int) 1 := ⟨tb_at 1438 (by decide +kernel) (by decide +kernel), tb_at 1439 (by decide +kernel) (by decide +kernel), tb_at 86 (by decide +kernel) (by decide +kernel), tb_at 1440 (by decide +kernel) (by decide +kernel), by decide +kernel, by decide⟩
theorem mf_X10_image : MV yX10_image cX10_image 2 (some FieldType.int) 0 := ⟨tb_at 1442 (by decide +kernel) (by decide +kernel), tb_at 1443 (by decide +kernel) (by decide +kernel), tb_at 86 (by decide +kernel) (by decide +kernel), tb_at 1444 (by decide +kernel) (by decide +kernel), by decide +kernel, by decide⟩
theorem mf_X10_back : MV yX10_back cX10_back 2 (some FieldType.int) 0 := ⟨tb_at 1446 (by decide +kernel) (by decide +kernel), tb_at 1447 (by decide +kernel) (by decide +kernel), tb_at 86 (by decide +kernel) (by decide +kernel), tb_at 1448 (by decide +kernel) (by decide +kernel), by decide +kernel, by decide⟩
theorem mf_X10_count : MV yX10_count cX10_count 4 (some FieldType.int) 1 := ⟨tb_at 1450 (by decide +kernel) (by decide +kernel), tb_at 1451 (by decide +kernel) (by decide +kernel), tb_at 86 (by decide +kernel) (by decide +kernel), tb_at 1452 (by decide +kernel) (by decide +kernel), by decide +kernel, by decide⟩
theorem mf_X10_sheet : MV yX10_sheet cX10_sheet 5 (some FieldType.int) 3 := ⟨tb_at 1454 (by decide +kernel) (by decide +kernel), tb_at 1455 (by decide +kernel) (by decide +kernel), tb_at 86 (by decide +kernel) (by decide +kernel), tb_at 1456 (by decide +kernel) (by decide +kernel), by decide +kernel, by decide⟩
theorem mf_X10_isSheet : MS yX10_isSheet cX10_isSheet 1 (some FieldType.boolean) 1 := ⟨tb_at 1458 (by decide +kernel) (by decide +kernel), tb_at 86 (by decide +kernel) (by decide +kernel), tb_at 1459 (by decide +kernel) (by decide +kernel), by decide +kernel, by decide⟩
theorem mf_X10_cell : MV yX10_cell cX10_cell 4 (some FieldType.int) 3 := ⟨tb_at 1461 (by decide +kernel) (by decide +kernel), tb_at 1462 (by decide +kernel) (by decide +kernel), tb_at 86 (by decide +kernel) (by decide +kernel), tb_at 1463 (by decide +kernel) (by decide +kernel), by decide +kernel, by decide⟩
theorem mf_X10_copy : MV yX10_copy cX10_copy 9 (some FieldType.int) 5 := ⟨tb_at 1465 (by decide +kernel) (by decide +kernel), tb_at 1466 (by decide +kernel) (by decide +kernel), tb_at 86 (by decide +kernel) (by decide +kernel), tb_at 1467 (by decide +kernel) (by decide +kernel), by decide +kernel, by decide⟩
theorem mf_X10_sales : MV yX10_sales cX10_sales 8 (some FieldType.int) 4 := ⟨tb_at 1469 (by decide +kernel) (by decide +kernel), tb_at 1470 (by decide +kernel) (by decide +kernel), tb_at 86 (by decide +kernel) (by decide +kernel), tb_at 1471 (by decide +kernel) (by decide +kernel), by decide +kernel, by decide⟩
theorem mf_X10_taken : MV yX10_taken cX10_taken 4 (some FieldType.int) 2 := ⟨tb_at 1474 (by decide +kernel) (by decide +kernel), tb_at 1475 (by decide +kernel) (by decide +kernel), tb_at 86 (by decide +kernel) (by decide +kernel), tb_at 1476 (by decide +kernel) (by decide +kernel), by decide +kernel, by decide⟩
theorem mf_X10_over : MS yX10_over cX10_over 1 (some FieldType.int) 1 := ⟨tb_at 1478 (by decide +kernel) (by decide +kernel), tb_at 86 (by decide +kernel) (by decide +kernel), tb_at 1479 (by decide +kernel) (by decide +kernel), by decide +kernel, by decide⟩
theorem oi_i : Cond.instanceMethod Lib.objectInit ∈ tb := tb_at 96 (by decide +kernel) (by decide +kernel)
theorem oi_c : Cond.code Lib.objectInit ⟨#[0xb1]⟩ 1 none ∈ tb := tb_at 97 (by decide +kernel) (by decide +kernel)
theorem ac_int : Cond.arrayClass .int ∈ tb := tb_at 124 (by decide +kernel) (by decide +kernel)
theorem ac_byte : Cond.arrayClass .byte ∈ tb := tb_at 192 (by decide +kernel) (by decide +kernel)
theorem ac_boolean : Cond.arrayClass .boolean ∈ tb := tb_at 1135 (by decide +kernel) (by decide +kernel)
