section
-- ===== PART A: goes FIRST, ahead of the names: the tables' words, and 'selects' of the private methods out of them =====
/-- a private method of a class that the tables say can be made, by its rows of tables_1 -/
def lw_okq (q : MethodName × Nat) : Prop := (q.1.cls ≠ "java/lang/invoke/MethodHandle" ∧ q.1.cls ≠ "java/lang/invoke/VarHandle") ∧ Cond.instantiable q.1.cls q.2 ∈ tables_1 ∧ Cond.privateMethod q.1 ∈ tables_1 ∧ Cond.instanceMethod q.1 ∈ tables_1
theorem lw_p0 : lw_okq (⟨"OldBottles$Reader", "next", "()V"⟩, 9) := ⟨⟨by decide +kernel, by decide +kernel⟩, List.mem_of_getElem? (i := 88) (by decide +kernel), List.mem_of_getElem? (i := 257) (by decide +kernel), List.mem_of_getElem? (i := 258) (by decide +kernel)⟩
theorem lw_p1 : lw_okq (⟨"OldBottles$Reader", "endOf", "(II)I"⟩, 9) := ⟨⟨by decide +kernel, by decide +kernel⟩, List.mem_of_getElem? (i := 88) (by decide +kernel), List.mem_of_getElem? (i := 261) (by decide +kernel), List.mem_of_getElem? (i := 262) (by decide +kernel)⟩
theorem lw_p2 : lw_okq (⟨"OldBottles$Reader", "wordToken", "()I"⟩, 9) := ⟨⟨by decide +kernel, by decide +kernel⟩, List.mem_of_getElem? (i := 88) (by decide +kernel), List.mem_of_getElem? (i := 268) (by decide +kernel), List.mem_of_getElem? (i := 269) (by decide +kernel)⟩
theorem lw_p3 : lw_okq (⟨"OldBottles$Reader", "numberToken", "()I"⟩, 9) := ⟨⟨by decide +kernel, by decide +kernel⟩, List.mem_of_getElem? (i := 88) (by decide +kernel), List.mem_of_getElem? (i := 275) (by decide +kernel), List.mem_of_getElem? (i := 276) (by decide +kernel)⟩
theorem lw_p4 : lw_okq (⟨"OldBottles$Reader", "readClause", "(I)V"⟩, 9) := ⟨⟨by decide +kernel, by decide +kernel⟩, List.mem_of_getElem? (i := 88) (by decide +kernel), List.mem_of_getElem? (i := 339) (by decide +kernel), List.mem_of_getElem? (i := 340) (by decide +kernel)⟩
theorem lw_p5 : lw_okq (⟨"OldBottles$Reader", "take", "(I)V"⟩, 9) := ⟨⟨by decide +kernel, by decide +kernel⟩, List.mem_of_getElem? (i := 88) (by decide +kernel), List.mem_of_getElem? (i := 343) (by decide +kernel), List.mem_of_getElem? (i := 344) (by decide +kernel)⟩
theorem lw_p6 : lw_okq (⟨"OldBottles$Reader", "fail", "()V"⟩, 9) := ⟨⟨by decide +kernel, by decide +kernel⟩, List.mem_of_getElem? (i := 88) (by decide +kernel), List.mem_of_getElem? (i := 347) (by decide +kernel), List.mem_of_getElem? (i := 348) (by decide +kernel)⟩
theorem lw_p7 : lw_okq (⟨"OldBottles$Reader", "readOr", "(I)V"⟩, 9) := ⟨⟨by decide +kernel, by decide +kernel⟩, List.mem_of_getElem? (i := 88) (by decide +kernel), List.mem_of_getElem? (i := 351) (by decide +kernel), List.mem_of_getElem? (i := 352) (by decide +kernel)⟩
theorem lw_p8 : lw_okq (⟨"OldBottles$Reader", "readAnd", "(I)V"⟩, 9) := ⟨⟨by decide +kernel, by decide +kernel⟩, List.mem_of_getElem? (i := 88) (by decide +kernel), List.mem_of_getElem? (i := 355) (by decide +kernel), List.mem_of_getElem? (i := 356) (by decide +kernel)⟩
theorem lw_p9 : lw_okq (⟨"OldBottles$Reader", "readNot", "(I)V"⟩, 9) := ⟨⟨by decide +kernel, by decide +kernel⟩, List.mem_of_getElem? (i := 88) (by decide +kernel), List.mem_of_getElem? (i := 359) (by decide +kernel), List.mem_of_getElem? (i := 360) (by decide +kernel)⟩
theorem lw_p10 : lw_okq (⟨"OldBottles$Reader", "readCompared", "(I)V"⟩, 9) := ⟨⟨by decide +kernel, by decide +kernel⟩, List.mem_of_getElem? (i := 88) (by decide +kernel), List.mem_of_getElem? (i := 363) (by decide +kernel), List.mem_of_getElem? (i := 364) (by decide +kernel)⟩
theorem lw_p11 : lw_okq (⟨"OldBottles$Reader", "readSum", "(I)V"⟩, 9) := ⟨⟨by decide +kernel, by decide +kernel⟩, List.mem_of_getElem? (i := 88) (by decide +kernel), List.mem_of_getElem? (i := 367) (by decide +kernel), List.mem_of_getElem? (i := 368) (by decide +kernel)⟩
theorem lw_p12 : lw_okq (⟨"OldBottles$Reader", "readTerm", "(I)V"⟩, 9) := ⟨⟨by decide +kernel, by decide +kernel⟩, List.mem_of_getElem? (i := 88) (by decide +kernel), List.mem_of_getElem? (i := 371) (by decide +kernel), List.mem_of_getElem? (i := 372) (by decide +kernel)⟩
theorem lw_p13 : lw_okq (⟨"OldBottles$Reader", "readOne", "(I)V"⟩, 9) := ⟨⟨by decide +kernel, by decide +kernel⟩, List.mem_of_getElem? (i := 88) (by decide +kernel), List.mem_of_getElem? (i := 375) (by decide +kernel), List.mem_of_getElem? (i := 376) (by decide +kernel)⟩
theorem lw_p14 : lw_okq (⟨"OldBottles$Reader", "emit", "(I)V"⟩, 9) := ⟨⟨by decide +kernel, by decide +kernel⟩, List.mem_of_getElem? (i := 88) (by decide +kernel), List.mem_of_getElem? (i := 379) (by decide +kernel), List.mem_of_getElem? (i := 380) (by decide +kernel)⟩
theorem lw_p15 : lw_okq (⟨"OldBottles", "wineAt", "(I)LOldBottles$Wine;"⟩, 17) := ⟨⟨by decide +kernel, by decide +kernel⟩, List.mem_of_getElem? (i := 22) (by decide +kernel), List.mem_of_getElem? (i := 511) (by decide +kernel), List.mem_of_getElem? (i := 512) (by decide +kernel)⟩
def lw_privs_1 : List (MethodName × Nat) := [(⟨"OldBottles$Reader", "next", "()V"⟩, 9), (⟨"OldBottles$Reader", "endOf", "(II)I"⟩, 9), (⟨"OldBottles$Reader", "wordToken", "()I"⟩, 9), (⟨"OldBottles$Reader", "numberToken", "()I"⟩, 9), (⟨"OldBottles$Reader", "readClause", "(I)V"⟩, 9), (⟨"OldBottles$Reader", "take", "(I)V"⟩, 9), (⟨"OldBottles$Reader", "fail", "()V"⟩, 9), (⟨"OldBottles$Reader", "readOr", "(I)V"⟩, 9), (⟨"OldBottles$Reader", "readAnd", "(I)V"⟩, 9), (⟨"OldBottles$Reader", "readNot", "(I)V"⟩, 9), (⟨"OldBottles$Reader", "readCompared", "(I)V"⟩, 9), (⟨"OldBottles$Reader", "readSum", "(I)V"⟩, 9), (⟨"OldBottles$Reader", "readTerm", "(I)V"⟩, 9), (⟨"OldBottles$Reader", "readOne", "(I)V"⟩, 9), (⟨"OldBottles$Reader", "emit", "(I)V"⟩, 9), (⟨"OldBottles", "wineAt", "(I)LOldBottles$Wine;"⟩, 17)]
theorem lw_r1 : ∀ q ∈ lw_privs_1, lw_okq q := List.forall_mem_cons.mpr ⟨lw_p0, List.forall_mem_cons.mpr ⟨lw_p1, List.forall_mem_cons.mpr ⟨lw_p2, List.forall_mem_cons.mpr ⟨lw_p3, List.forall_mem_cons.mpr ⟨lw_p4, List.forall_mem_cons.mpr ⟨lw_p5, List.forall_mem_cons.mpr ⟨lw_p6, List.forall_mem_cons.mpr ⟨lw_p7, List.forall_mem_cons.mpr ⟨lw_p8, List.forall_mem_cons.mpr ⟨lw_p9, List.forall_mem_cons.mpr ⟨lw_p10, List.forall_mem_cons.mpr ⟨lw_p11, List.forall_mem_cons.mpr ⟨lw_p12, List.forall_mem_cons.mpr ⟨lw_p13, List.forall_mem_cons.mpr ⟨lw_p14, List.forall_mem_cons.mpr ⟨lw_p15, fun _ h => absurd h List.not_mem_nil⟩⟩⟩⟩⟩⟩⟩⟩⟩⟩⟩⟩⟩⟩⟩⟩
theorem lw_p16 : lw_okq (⟨"OldBottles", "bottleAt", "(I)LOldBottles$Bottle;"⟩, 17) := ⟨⟨by decide +kernel, by decide +kernel⟩, List.mem_of_getElem? (i := 22) (by decide +kernel), List.mem_of_getElem? (i := 595) (by decide +kernel), List.mem_of_getElem? (i := 596) (by decide +kernel)⟩
theorem lw_p17 : lw_okq (⟨"OldBottles", "barBits", "(LOldBottles$Bottle;)I"⟩, 17) := ⟨⟨by decide +kernel, by decide +kernel⟩, List.mem_of_getElem? (i := 22) (by decide +kernel), List.mem_of_getElem? (i := 599) (by decide +kernel), List.mem_of_getElem? (i := 600) (by decide +kernel)⟩
theorem lw_p18 : lw_okq (⟨"OldBottles", "oddBits", "(LOldBottles$Bottle;)I"⟩, 17) := ⟨⟨by decide +kernel, by decide +kernel⟩, List.mem_of_getElem? (i := 22) (by decide +kernel), List.mem_of_getElem? (i := 608) (by decide +kernel), List.mem_of_getElem? (i := 609) (by decide +kernel)⟩
theorem lw_p19 : lw_okq (⟨"OldBottles", "isBarred", "(LOldBottles$Bottle;)Z"⟩, 17) := ⟨⟨by decide +kernel, by decide +kernel⟩, List.mem_of_getElem? (i := 22) (by decide +kernel), List.mem_of_getElem? (i := 613) (by decide +kernel), List.mem_of_getElem? (i := 614) (by decide +kernel)⟩
theorem lw_p20 : lw_okq (⟨"OldBottles", "judged", "(LOldBottles$Bottle;I)I"⟩, 17) := ⟨⟨by decide +kernel, by decide +kernel⟩, List.mem_of_getElem? (i := 22) (by decide +kernel), List.mem_of_getElem? (i := 622) (by decide +kernel), List.mem_of_getElem? (i := 623) (by decide +kernel)⟩
theorem lw_p21 : lw_okq (⟨"OldBottles", "learnNames", "(LOldBottles$Bottle;)V"⟩, 17) := ⟨⟨by decide +kernel, by decide +kernel⟩, List.mem_of_getElem? (i := 22) (by decide +kernel), List.mem_of_getElem? (i := 626) (by decide +kernel), List.mem_of_getElem? (i := 627) (by decide +kernel)⟩
theorem lw_p22 : lw_okq (⟨"OldBottles", "soldOf", "(I)I"⟩, 17) := ⟨⟨by decide +kernel, by decide +kernel⟩, List.mem_of_getElem? (i := 22) (by decide +kernel), List.mem_of_getElem? (i := 636) (by decide +kernel), List.mem_of_getElem? (i := 637) (by decide +kernel)⟩
theorem lw_p23 : lw_okq (⟨"OldBottles", "soldBy", "(IZ)I"⟩, 17) := ⟨⟨by decide +kernel, by decide +kernel⟩, List.mem_of_getElem? (i := 22) (by decide +kernel), List.mem_of_getElem? (i := 715) (by decide +kernel), List.mem_of_getElem? (i := 716) (by decide +kernel)⟩
theorem lw_p24 : lw_okq (⟨"OldBottles", "tongueAt", "(I)LOldBottles$Tongue;"⟩, 17) := ⟨⟨by decide +kernel, by decide +kernel⟩, List.mem_of_getElem? (i := 22) (by decide +kernel), List.mem_of_getElem? (i := 738) (by decide +kernel), List.mem_of_getElem? (i := 739) (by decide +kernel)⟩
theorem lw_p25 : lw_okq (⟨"OldBottles", "weighDoubts", "()I"⟩, 17) := ⟨⟨by decide +kernel, by decide +kernel⟩, List.mem_of_getElem? (i := 22) (by decide +kernel), List.mem_of_getElem? (i := 759) (by decide +kernel), List.mem_of_getElem? (i := 760) (by decide +kernel)⟩
theorem lw_p26 : lw_okq (⟨"OldBottles", "passOnAgain", "()V"⟩, 17) := ⟨⟨by decide +kernel, by decide +kernel⟩, List.mem_of_getElem? (i := 22) (by decide +kernel), List.mem_of_getElem? (i := 807) (by decide +kernel), List.mem_of_getElem? (i := 808) (by decide +kernel)⟩
theorem lw_p27 : lw_okq (⟨"OldBottles", "barredBottles", "()I"⟩, 17) := ⟨⟨by decide +kernel, by decide +kernel⟩, List.mem_of_getElem? (i := 22) (by decide +kernel), List.mem_of_getElem? (i := 819) (by decide +kernel), List.mem_of_getElem? (i := 820) (by decide +kernel)⟩
theorem lw_p28 : lw_okq (⟨"OldBottles", "soldBottles", "()I"⟩, 17) := ⟨⟨by decide +kernel, by decide +kernel⟩, List.mem_of_getElem? (i := 22) (by decide +kernel), List.mem_of_getElem? (i := 823) (by decide +kernel), List.mem_of_getElem? (i := 824) (by decide +kernel)⟩
theorem lw_p29 : lw_okq (⟨"OldBottles", "sheetAt", "(I)LOldBottles$Sheet;"⟩, 17) := ⟨⟨by decide +kernel, by decide +kernel⟩, List.mem_of_getElem? (i := 22) (by decide +kernel), List.mem_of_getElem? (i := 831) (by decide +kernel), List.mem_of_getElem? (i := 832) (by decide +kernel)⟩
theorem lw_p30 : lw_okq (⟨"OldBottlesModel", "spell", "(IJ)V"⟩, 60) := ⟨⟨by decide +kernel, by decide +kernel⟩, List.mem_of_getElem? (i := 866) (by decide +kernel), List.mem_of_getElem? (i := 873) (by decide +kernel), List.mem_of_getElem? (i := 874) (by decide +kernel)⟩
theorem lw_p31 : lw_okq (⟨"OldBottlesModel", "isWine", "(I)Z"⟩, 60) := ⟨⟨by decide +kernel, by decide +kernel⟩, List.mem_of_getElem? (i := 866) (by decide +kernel), List.mem_of_getElem? (i := 1086) (by decide +kernel), List.mem_of_getElem? (i := 1087) (by decide +kernel)⟩
def lw_privs_2 : List (MethodName × Nat) := [(⟨"OldBottles", "bottleAt", "(I)LOldBottles$Bottle;"⟩, 17), (⟨"OldBottles", "barBits", "(LOldBottles$Bottle;)I"⟩, 17), (⟨"OldBottles", "oddBits", "(LOldBottles$Bottle;)I"⟩, 17), (⟨"OldBottles", "isBarred", "(LOldBottles$Bottle;)Z"⟩, 17), (⟨"OldBottles", "judged", "(LOldBottles$Bottle;I)I"⟩, 17), (⟨"OldBottles", "learnNames", "(LOldBottles$Bottle;)V"⟩, 17), (⟨"OldBottles", "soldOf", "(I)I"⟩, 17), (⟨"OldBottles", "soldBy", "(IZ)I"⟩, 17), (⟨"OldBottles", "tongueAt", "(I)LOldBottles$Tongue;"⟩, 17), (⟨"OldBottles", "weighDoubts", "()I"⟩, 17), (⟨"OldBottles", "passOnAgain", "()V"⟩, 17), (⟨"OldBottles", "barredBottles", "()I"⟩, 17), (⟨"OldBottles", "soldBottles", "()I"⟩, 17), (⟨"OldBottles", "sheetAt", "(I)LOldBottles$Sheet;"⟩, 17), (⟨"OldBottlesModel", "spell", "(IJ)V"⟩, 60), (⟨"OldBottlesModel", "isWine", "(I)Z"⟩, 60)]
theorem lw_r2 : ∀ q ∈ lw_privs_2, lw_okq q := List.forall_mem_cons.mpr ⟨lw_p16, List.forall_mem_cons.mpr ⟨lw_p17, List.forall_mem_cons.mpr ⟨lw_p18, List.forall_mem_cons.mpr ⟨lw_p19, List.forall_mem_cons.mpr ⟨lw_p20, List.forall_mem_cons.mpr ⟨lw_p21, List.forall_mem_cons.mpr ⟨lw_p22, List.forall_mem_cons.mpr ⟨lw_p23, List.forall_mem_cons.mpr ⟨lw_p24, List.forall_mem_cons.mpr ⟨lw_p25, List.forall_mem_cons.mpr ⟨lw_p26, List.forall_mem_cons.mpr ⟨lw_p27, List.forall_mem_cons.mpr ⟨lw_p28, List.forall_mem_cons.mpr ⟨lw_p29, List.forall_mem_cons.mpr ⟨lw_p30, List.forall_mem_cons.mpr ⟨lw_p31, fun _ h => absurd h List.not_mem_nil⟩⟩⟩⟩⟩⟩⟩⟩⟩⟩⟩⟩⟩⟩⟩⟩
theorem lw_p32 : lw_okq (⟨"OldBottlesModel", "isBottle", "(I)Z"⟩, 60) := ⟨⟨by decide +kernel, by decide +kernel⟩, List.mem_of_getElem? (i := 866) (by decide +kernel), List.mem_of_getElem? (i := 1110) (by decide +kernel), List.mem_of_getElem? (i := 1111) (by decide +kernel)⟩
theorem lw_p33 : lw_okq (⟨"OldBottlesModel", "showsOf", "(II)I"⟩, 60) := ⟨⟨by decide +kernel, by decide +kernel⟩, List.mem_of_getElem? (i := 866) (by decide +kernel), List.mem_of_getElem? (i := 1114) (by decide +kernel), List.mem_of_getElem? (i := 1115) (by decide +kernel)⟩
theorem lw_p34 : lw_okq (⟨"OldBottlesModel", "tastesOf", "(II)I"⟩, 60) := ⟨⟨by decide +kernel, by decide +kernel⟩, List.mem_of_getElem? (i := 866) (by decide +kernel), List.mem_of_getElem? (i := 1121) (by decide +kernel), List.mem_of_getElem? (i := 1122) (by decide +kernel)⟩
theorem lw_p35 : lw_okq (⟨"OldBottlesModel", "tasteOf", "(II)I"⟩, 60) := ⟨⟨by decide +kernel, by decide +kernel⟩, List.mem_of_getElem? (i := 866) (by decide +kernel), List.mem_of_getElem? (i := 1125) (by decide +kernel), List.mem_of_getElem? (i := 1126) (by decide +kernel)⟩
theorem lw_p36 : lw_okq (⟨"OldBottlesModel", "barsOf", "(I)I"⟩, 60) := ⟨⟨by decide +kernel, by decide +kernel⟩, List.mem_of_getElem? (i := 866) (by decide +kernel), List.mem_of_getElem? (i := 1133) (by decide +kernel), List.mem_of_getElem? (i := 1134) (by decide +kernel)⟩
theorem lw_p37 : lw_okq (⟨"OldBottlesModel", "bars", "(II)Z"⟩, 60) := ⟨⟨by decide +kernel, by decide +kernel⟩, List.mem_of_getElem? (i := 866) (by decide +kernel), List.mem_of_getElem? (i := 1137) (by decide +kernel), List.mem_of_getElem? (i := 1138) (by decide +kernel)⟩
theorem lw_p38 : lw_okq (⟨"OldBottlesModel", "oddsOf", "(I)I"⟩, 60) := ⟨⟨by decide +kernel, by decide +kernel⟩, List.mem_of_getElem? (i := 866) (by decide +kernel), List.mem_of_getElem? (i := 1141) (by decide +kernel), List.mem_of_getElem? (i := 1142) (by decide +kernel)⟩
theorem lw_p39 : lw_okq (⟨"OldBottlesModel", "isOdd", "(II)Z"⟩, 60) := ⟨⟨by decide +kernel, by decide +kernel⟩, List.mem_of_getElem? (i := 866) (by decide +kernel), List.mem_of_getElem? (i := 1145) (by decide +kernel), List.mem_of_getElem? (i := 1146) (by decide +kernel)⟩
theorem lw_p40 : lw_okq (⟨"OldBottlesModel", "isBarred", "(I)Z"⟩, 60) := ⟨⟨by decide +kernel, by decide +kernel⟩, List.mem_of_getElem? (i := 866) (by decide +kernel), List.mem_of_getElem? (i := 1149) (by decide +kernel), List.mem_of_getElem? (i := 1150) (by decide +kernel)⟩
theorem lw_p41 : lw_okq (⟨"OldBottlesModel", "gapOf", "(I)I"⟩, 60) := ⟨⟨by decide +kernel, by decide +kernel⟩, List.mem_of_getElem? (i := 866) (by decide +kernel), List.mem_of_getElem? (i := 1153) (by decide +kernel), List.mem_of_getElem? (i := 1154) (by decide +kernel)⟩
theorem lw_p42 : lw_okq (⟨"OldBottlesModel", "lastOf", "(II)I"⟩, 60) := ⟨⟨by decide +kernel, by decide +kernel⟩, List.mem_of_getElem? (i := 866) (by decide +kernel), List.mem_of_getElem? (i := 1157) (by decide +kernel), List.mem_of_getElem? (i := 1158) (by decide +kernel)⟩
theorem lw_p43 : lw_okq (⟨"OldBottlesModel", "ownerOf", "(I)I"⟩, 60) := ⟨⟨by decide +kernel, by decide +kernel⟩, List.mem_of_getElem? (i := 866) (by decide +kernel), List.mem_of_getElem? (i := 1164) (by decide +kernel), List.mem_of_getElem? (i := 1165) (by decide +kernel)⟩
theorem lw_p44 : lw_okq (⟨"OldBottlesModel", "doubtOf", "(I)I"⟩, 60) := ⟨⟨by decide +kernel, by decide +kernel⟩, List.mem_of_getElem? (i := 866) (by decide +kernel), List.mem_of_getElem? (i := 1168) (by decide +kernel), List.mem_of_getElem? (i := 1169) (by decide +kernel)⟩
theorem lw_p45 : lw_okq (⟨"OldBottlesModel", "saysOf", "(II)I"⟩, 60) := ⟨⟨by decide +kernel, by decide +kernel⟩, List.mem_of_getElem? (i := 866) (by decide +kernel), List.mem_of_getElem? (i := 1172) (by decide +kernel), List.mem_of_getElem? (i := 1173) (by decide +kernel)⟩
theorem lw_p46 : lw_okq (⟨"OldBottlesModel", "soldOf", "(I)I"⟩, 60) := ⟨⟨by decide +kernel, by decide +kernel⟩, List.mem_of_getElem? (i := 866) (by decide +kernel), List.mem_of_getElem? (i := 1179) (by decide +kernel), List.mem_of_getElem? (i := 1180) (by decide +kernel)⟩
theorem lw_p47 : lw_okq (⟨"OldBottlesModel", "read", "(II)I"⟩, 60) := ⟨⟨by decide +kernel, by decide +kernel⟩, List.mem_of_getElem? (i := 866) (by decide +kernel), List.mem_of_getElem? (i := 1183) (by decide +kernel), List.mem_of_getElem? (i := 1184) (by decide +kernel)⟩
def lw_privs_3 : List (MethodName × Nat) := [(⟨"OldBottlesModel", "isBottle", "(I)Z"⟩, 60), (⟨"OldBottlesModel", "showsOf", "(II)I"⟩, 60), (⟨"OldBottlesModel", "tastesOf", "(II)I"⟩, 60), (⟨"OldBottlesModel", "tasteOf", "(II)I"⟩, 60), (⟨"OldBottlesModel", "barsOf", "(I)I"⟩, 60), (⟨"OldBottlesModel", "bars", "(II)Z"⟩, 60), (⟨"OldBottlesModel", "oddsOf", "(I)I"⟩, 60), (⟨"OldBottlesModel", "isOdd", "(II)Z"⟩, 60), (⟨"OldBottlesModel", "isBarred", "(I)Z"⟩, 60), (⟨"OldBottlesModel", "gapOf", "(I)I"⟩, 60), (⟨"OldBottlesModel", "lastOf", "(II)I"⟩, 60), (⟨"OldBottlesModel", "ownerOf", "(I)I"⟩, 60), (⟨"OldBottlesModel", "doubtOf", "(I)I"⟩, 60), (⟨"OldBottlesModel", "saysOf", "(II)I"⟩, 60), (⟨"OldBottlesModel", "soldOf", "(I)I"⟩, 60), (⟨"OldBottlesModel", "read", "(II)I"⟩, 60)]
theorem lw_r3 : ∀ q ∈ lw_privs_3, lw_okq q := List.forall_mem_cons.mpr ⟨lw_p32, List.forall_mem_cons.mpr ⟨lw_p33, List.forall_mem_cons.mpr ⟨lw_p34, List.forall_mem_cons.mpr ⟨lw_p35, List.forall_mem_cons.mpr ⟨lw_p36, List.forall_mem_cons.mpr ⟨lw_p37, List.forall_mem_cons.mpr ⟨lw_p38, List.forall_mem_cons.mpr ⟨lw_p39, List.forall_mem_cons.mpr ⟨lw_p40, List.forall_mem_cons.mpr ⟨lw_p41, List.forall_mem_cons.mpr ⟨lw_p42, List.forall_mem_cons.mpr ⟨lw_p43, List.forall_mem_cons.mpr ⟨lw_p44, List.forall_mem_cons.mpr ⟨lw_p45, List.forall_mem_cons.mpr ⟨lw_p46, List.forall_mem_cons.mpr ⟨lw_p47, fun _ h => absurd h List.not_mem_nil⟩⟩⟩⟩⟩⟩⟩⟩⟩⟩⟩⟩⟩⟩⟩⟩
theorem lw_p48 : lw_okq (⟨"OldBottlesModel", "next", "()V"⟩, 60) := ⟨⟨by decide +kernel, by decide +kernel⟩, List.mem_of_getElem? (i := 866) (by decide +kernel), List.mem_of_getElem? (i := 1187) (by decide +kernel), List.mem_of_getElem? (i := 1188) (by decide +kernel)⟩
theorem lw_p49 : lw_okq (⟨"OldBottlesModel", "byteAt", "(I)I"⟩, 60) := ⟨⟨by decide +kernel, by decide +kernel⟩, List.mem_of_getElem? (i := 866) (by decide +kernel), List.mem_of_getElem? (i := 1191) (by decide +kernel), List.mem_of_getElem? (i := 1192) (by decide +kernel)⟩
theorem lw_p50 : lw_okq (⟨"OldBottlesModel", "part", "(J)I"⟩, 60) := ⟨⟨by decide +kernel, by decide +kernel⟩, List.mem_of_getElem? (i := 866) (by decide +kernel), List.mem_of_getElem? (i := 1204) (by decide +kernel), List.mem_of_getElem? (i := 1205) (by decide +kernel)⟩
theorem lw_p51 : lw_okq (⟨"OldBottlesModel", "isWord", "(J)Z"⟩, 60) := ⟨⟨by decide +kernel, by decide +kernel⟩, List.mem_of_getElem? (i := 866) (by decide +kernel), List.mem_of_getElem? (i := 1208) (by decide +kernel), List.mem_of_getElem? (i := 1209) (by decide +kernel)⟩
theorem lw_p52 : lw_okq (⟨"OldBottlesModel", "fail", "()V"⟩, 60) := ⟨⟨by decide +kernel, by decide +kernel⟩, List.mem_of_getElem? (i := 866) (by decide +kernel), List.mem_of_getElem? (i := 1212) (by decide +kernel), List.mem_of_getElem? (i := 1213) (by decide +kernel)⟩
theorem lw_p53 : lw_okq (⟨"OldBottlesModel", "either", "()I"⟩, 60) := ⟨⟨by decide +kernel, by decide +kernel⟩, List.mem_of_getElem? (i := 866) (by decide +kernel), List.mem_of_getElem? (i := 1216) (by decide +kernel), List.mem_of_getElem? (i := 1217) (by decide +kernel)⟩
theorem lw_p54 : lw_okq (⟨"OldBottlesModel", "both", "()I"⟩, 60) := ⟨⟨by decide +kernel, by decide +kernel⟩, List.mem_of_getElem? (i := 866) (by decide +kernel), List.mem_of_getElem? (i := 1220) (by decide +kernel), List.mem_of_getElem? (i := 1221) (by decide +kernel)⟩
theorem lw_p55 : lw_okq (⟨"OldBottlesModel", "not", "()I"⟩, 60) := ⟨⟨by decide +kernel, by decide +kernel⟩, List.mem_of_getElem? (i := 866) (by decide +kernel), List.mem_of_getElem? (i := 1224) (by decide +kernel), List.mem_of_getElem? (i := 1225) (by decide +kernel)⟩
theorem lw_p56 : lw_okq (⟨"OldBottlesModel", "opens", "()Z"⟩, 60) := ⟨⟨by decide +kernel, by decide +kernel⟩, List.mem_of_getElem? (i := 866) (by decide +kernel), List.mem_of_getElem? (i := 1229) (by decide +kernel), List.mem_of_getElem? (i := 1230) (by decide +kernel)⟩
theorem lw_p57 : lw_okq (⟨"OldBottlesModel", "added", "()I"⟩, 60) := ⟨⟨by decide +kernel, by decide +kernel⟩, List.mem_of_getElem? (i := 866) (by decide +kernel), List.mem_of_getElem? (i := 1233) (by decide +kernel), List.mem_of_getElem? (i := 1234) (by decide +kernel)⟩
theorem lw_p58 : lw_okq (⟨"OldBottlesModel", "term", "()I"⟩, 60) := ⟨⟨by decide +kernel, by decide +kernel⟩, List.mem_of_getElem? (i := 866) (by decide +kernel), List.mem_of_getElem? (i := 1237) (by decide +kernel), List.mem_of_getElem? (i := 1238) (by decide +kernel)⟩
theorem lw_p59 : lw_okq (⟨"OldBottlesModel", "one", "()I"⟩, 60) := ⟨⟨by decide +kernel, by decide +kernel⟩, List.mem_of_getElem? (i := 866) (by decide +kernel), List.mem_of_getElem? (i := 1241) (by decide +kernel), List.mem_of_getElem? (i := 1242) (by decide +kernel)⟩
theorem lw_p60 : lw_okq (⟨"OldBottlesModel", "isSign", "(I)Z"⟩, 60) := ⟨⟨by decide +kernel, by decide +kernel⟩, List.mem_of_getElem? (i := 866) (by decide +kernel), List.mem_of_getElem? (i := 1245) (by decide +kernel), List.mem_of_getElem? (i := 1246) (by decide +kernel)⟩
theorem lw_p61 : lw_okq (⟨"OldBottlesModel", "name", "()I"⟩, 60) := ⟨⟨by decide +kernel, by decide +kernel⟩, List.mem_of_getElem? (i := 866) (by decide +kernel), List.mem_of_getElem? (i := 1249) (by decide +kernel), List.mem_of_getElem? (i := 1250) (by decide +kernel)⟩
theorem lw_p62 : lw_okq (⟨"OldBottlesModel", "priceOf", "(I)I"⟩, 60) := ⟨⟨by decide +kernel, by decide +kernel⟩, List.mem_of_getElem? (i := 866) (by decide +kernel), List.mem_of_getElem? (i := 1268) (by decide +kernel), List.mem_of_getElem? (i := 1269) (by decide +kernel)⟩
theorem lw_p63 : lw_okq (⟨"OldBottlesModel", "openOf", "(I)I"⟩, 60) := ⟨⟨by decide +kernel, by decide +kernel⟩, List.mem_of_getElem? (i := 866) (by decide +kernel), List.mem_of_getElem? (i := 1272) (by decide +kernel), List.mem_of_getElem? (i := 1273) (by decide +kernel)⟩
def lw_privs_4 : List (MethodName × Nat) := [(⟨"OldBottlesModel", "next", "()V"⟩, 60), (⟨"OldBottlesModel", "byteAt", "(I)I"⟩, 60), (⟨"OldBottlesModel", "part", "(J)I"⟩, 60), (⟨"OldBottlesModel", "isWord", "(J)Z"⟩, 60), (⟨"OldBottlesModel", "fail", "()V"⟩, 60), (⟨"OldBottlesModel", "either", "()I"⟩, 60), (⟨"OldBottlesModel", "both", "()I"⟩, 60), (⟨"OldBottlesModel", "not", "()I"⟩, 60), (⟨"OldBottlesModel", "opens", "()Z"⟩, 60), (⟨"OldBottlesModel", "added", "()I"⟩, 60), (⟨"OldBottlesModel", "term", "()I"⟩, 60), (⟨"OldBottlesModel", "one", "()I"⟩, 60), (⟨"OldBottlesModel", "isSign", "(I)Z"⟩, 60), (⟨"OldBottlesModel", "name", "()I"⟩, 60), (⟨"OldBottlesModel", "priceOf", "(I)I"⟩, 60), (⟨"OldBottlesModel", "openOf", "(I)I"⟩, 60)]
theorem lw_r4 : ∀ q ∈ lw_privs_4, lw_okq q := List.forall_mem_cons.mpr ⟨lw_p48, List.forall_mem_cons.mpr ⟨lw_p49, List.forall_mem_cons.mpr ⟨lw_p50, List.forall_mem_cons.mpr ⟨lw_p51, List.forall_mem_cons.mpr ⟨lw_p52, List.forall_mem_cons.mpr ⟨lw_p53, List.forall_mem_cons.mpr ⟨lw_p54, List.forall_mem_cons.mpr ⟨lw_p55, List.forall_mem_cons.mpr ⟨lw_p56, List.forall_mem_cons.mpr ⟨lw_p57, List.forall_mem_cons.mpr ⟨lw_p58, List.forall_mem_cons.mpr ⟨lw_p59, List.forall_mem_cons.mpr ⟨lw_p60, List.forall_mem_cons.mpr ⟨lw_p61, List.forall_mem_cons.mpr ⟨lw_p62, List.forall_mem_cons.mpr ⟨lw_p63, fun _ h => absurd h List.not_mem_nil⟩⟩⟩⟩⟩⟩⟩⟩⟩⟩⟩⟩⟩⟩⟩⟩
theorem lw_p64 : lw_okq (⟨"OldBottlesModel", "salesBy", "(I)I"⟩, 60) := ⟨⟨by decide +kernel, by decide +kernel⟩, List.mem_of_getElem? (i := 866) (by decide +kernel), List.mem_of_getElem? (i := 1314) (by decide +kernel), List.mem_of_getElem? (i := 1315) (by decide +kernel)⟩
theorem lw_p65 : lw_okq (⟨"OldBottlesModel", "barredBy", "(I)I"⟩, 60) := ⟨⟨by decide +kernel, by decide +kernel⟩, List.mem_of_getElem? (i := 866) (by decide +kernel), List.mem_of_getElem? (i := 1318) (by decide +kernel), List.mem_of_getElem? (i := 1319) (by decide +kernel)⟩
theorem lw_p66 : lw_okq (⟨"OldBottlesModel", "farOf", "(IIII)I"⟩, 60) := ⟨⟨by decide +kernel, by decide +kernel⟩, List.mem_of_getElem? (i := 866) (by decide +kernel), List.mem_of_getElem? (i := 1330) (by decide +kernel), List.mem_of_getElem? (i := 1331) (by decide +kernel)⟩
theorem lw_p67 : lw_okq (⟨"OldBottlesModel", "withinOf", "(I)I"⟩, 60) := ⟨⟨by decide +kernel, by decide +kernel⟩, List.mem_of_getElem? (i := 866) (by decide +kernel), List.mem_of_getElem? (i := 1345) (by decide +kernel), List.mem_of_getElem? (i := 1346) (by decide +kernel)⟩
theorem lw_p68 : lw_okq (⟨"OldBottlesModel", "handsOf", "(I)I"⟩, 60) := ⟨⟨by decide +kernel, by decide +kernel⟩, List.mem_of_getElem? (i := 866) (by decide +kernel), List.mem_of_getElem? (i := 1365) (by decide +kernel), List.mem_of_getElem? (i := 1366) (by decide +kernel)⟩
def lw_privs_5 : List (MethodName × Nat) := [(⟨"OldBottlesModel", "salesBy", "(I)I"⟩, 60), (⟨"OldBottlesModel", "barredBy", "(I)I"⟩, 60), (⟨"OldBottlesModel", "farOf", "(IIII)I"⟩, 60), (⟨"OldBottlesModel", "withinOf", "(I)I"⟩, 60), (⟨"OldBottlesModel", "handsOf", "(I)I"⟩, 60)]
theorem lw_r5 : ∀ q ∈ lw_privs_5, lw_okq q := List.forall_mem_cons.mpr ⟨lw_p64, List.forall_mem_cons.mpr ⟨lw_p65, List.forall_mem_cons.mpr ⟨lw_p66, List.forall_mem_cons.mpr ⟨lw_p67, List.forall_mem_cons.mpr ⟨lw_p68, fun _ h => absurd h List.not_mem_nil⟩⟩⟩⟩⟩
def lw_privs : List (MethodName × Nat) := lw_privs_1 ++ (lw_privs_2 ++ (lw_privs_3 ++ (lw_privs_4 ++ (lw_privs_5))))
def lw_tbl : List Cond := k2_sels lw_privs ++ tables_1
theorem lw_privs_ok : ∀ q ∈ lw_privs, lw_okq q := by
  show ∀ q ∈ lw_privs_1 ++ (lw_privs_2 ++ (lw_privs_3 ++ (lw_privs_4 ++ (lw_privs_5)))), lw_okq q
  exact List.forall_mem_append.mpr ⟨lw_r1, List.forall_mem_append.mpr ⟨lw_r2, List.forall_mem_append.mpr ⟨lw_r3, List.forall_mem_append.mpr ⟨lw_r4, lw_r5⟩⟩⟩⟩
end
section
def RX0 : String := "OldBottles$Book"
def TX0 : u_T := fun k => match k with
  | 0 => ("OldBottles$Book", "from", "[I", true)
  | 1 => ("OldBottles$Book", "till", "[I", true)
  | _ => ("OldBottles$Book", "testedFrom", "[I", true)
def tyX0 : Nat → FieldType := fun k => match k with
  | 0 => .array .int
  | 1 => .array .int
  | _ => .array .int
abbrev wsX00 : List Cond := u_ws RX0 TX0 3
theorem nmX0 : ∀ a, a < 3 → ∀ b, b < 3 → a ≠ b → (TX0 a).2.1 ≠ (TX0 b).2.1 := by decide +kernel
theorem tyX0_ok : ∀ k, k < 3 → parseFieldDescriptor (TX0 k).2.2.1 = some (tyX0 k) := by decide +kernel
abbrev cX0_init : ByteArray := prog_2_method_1_code
def yX0_init : MethodName := ⟨RX0, "<init>", "()V"⟩
abbrev cX0_place : ByteArray := prog_2_method_2_code
def yX0_place : MethodName := ⟨RX0, "place", "(II)I"⟩
abbrev cX0_write : ByteArray := prog_2_method_3_code
def yX0_write : MethodName := ⟨RX0, "write", "(IIII)V"⟩
abbrev cX0_bars : ByteArray := prog_2_method_4_code
def yX0_bars : MethodName := ⟨RX0, "bars", "(LOldBottles$Bottle;I)Z"⟩
abbrev cX0_become : ByteArray := prog_2_method_5_code
def yX0_become : MethodName := ⟨RX0, "become", "(LOldBottles$Book;)V"⟩
def RX1 : String := "OldBottles$Bottle"
def TX1 : u_T := fun k => match k with
  | 0 => ("OldBottles$Bottle", "kind", "I", true)
  | 1 => ("OldBottles$Bottle", "label", "LOldBottles$Wine;", true)
  | 2 => ("OldBottles$Bottle", "inside", "LOldBottles$Wine;", true)
  | 3 => ("OldBottles$Bottle", "shown", "I", true)
  | 4 => ("OldBottles$Bottle", "timesSold", "I", false)
  | 5 => ("OldBottles$Bottle", "owner", "I", false)
  | 6 => ("OldBottles$Bottle", "gaps", "I", false)
  | 7 => ("OldBottles$Bottle", "unbroken", "I", false)
  | _ => ("OldBottles$Bottle", "lastYear", "I", false)
def tyX1 : Nat → FieldType := fun k => match k with
  | 0 => .int
  | 1 => .object "OldBottles$Wine"
  | 2 => .object "OldBottles$Wine"
  | 3 => .int
  | 4 => .int
  | 5 => .int
  | 6 => .int
  | 7 => .int
  | _ => .int
abbrev wsX10 : List Cond := u_ws RX1 TX1 9
theorem nmX1 : ∀ a, a < 9 → ∀ b, b < 9 → a ≠ b → (TX1 a).2.1 ≠ (TX1 b).2.1 := by decide +kernel
theorem tyX1_ok : ∀ k, k < 9 → parseFieldDescriptor (TX1 k).2.2.1 = some (tyX1 k) := by decide +kernel
abbrev cX1_init : ByteArray := prog_3_method_1_code
def yX1_init : MethodName := ⟨RX1, "<init>", "(ILOldBottles$Wine;LOldBottles$Wine;I)V"⟩
abbrev cX1_shownParts : ByteArray := prog_3_method_2_code
def yX1_shownParts : MethodName := ⟨RX1, "shownParts", "(III)I"⟩
abbrev cX1_tasted : ByteArray := prog_3_method_3_code
def yX1_tasted : MethodName := ⟨RX1, "tasted", "(I)I"⟩
abbrev cX1_within : ByteArray := prog_3_method_4_code
def yX1_within : MethodName := ⟨RX1, "within", "()LOldBottles$Wine;"⟩
abbrev cX1_passOn : ByteArray := prog_3_method_5_code
def yX1_passOn : MethodName := ⟨RX1, "passOn", "(III)V"⟩
abbrev cX1_forgetSales : ByteArray := prog_3_method_6_code
def yX1_forgetSales : MethodName := ⟨RX1, "forgetSales", "()V"⟩
def RX2 : String := "OldBottles$Image"
def TX2 : u_T := fun k => match k with
  | 0 => ("OldBottles$Image", "drunk", "[I", true)
  | 1 => ("OldBottles$Image", "pages", "LOldBottles$Book;", true)
  | 2 => ("OldBottles$Image", "wines", "I", false)
  | 3 => ("OldBottles$Image", "rule", "I", false)
  | _ => ("OldBottles$Image", "sales", "I", false)
def tyX2 : Nat → FieldType := fun k => match k with
  | 0 => .array .int
  | 1 => .object "OldBottles$Book"
  | 2 => .int
  | 3 => .int
  | _ => .int
abbrev wsX20 : List Cond := u_ws RX2 TX2 5
theorem nmX2 : ∀ a, a < 5 → ∀ b, b < 5 → a ≠ b → (TX2 a).2.1 ≠ (TX2 b).2.1 := by decide +kernel
theorem tyX2_ok : ∀ k, k < 5 → parseFieldDescriptor (TX2 k).2.2.1 = some (tyX2 k) := by decide +kernel
abbrev cX2_init : ByteArray := prog_4_method_1_code
def yX2_init : MethodName := ⟨RX2, "<init>", "()V"⟩
def RX3 : String := "OldBottles$Ledger"
def TX3 : u_T := fun k => match k with
  | 0 => ("OldBottles$Ledger", "bottle", "[I", true)
  | 1 => ("OldBottles$Ledger", "seller", "[I", true)
  | 2 => ("OldBottles$Ledger", "buyer", "[I", true)
  | 3 => ("OldBottles$Ledger", "price", "[I", true)
  | 4 => ("OldBottles$Ledger", "year", "[I", true)
  | _ => ("OldBottles$Ledger", "size", "I", false)
def tyX3 : Nat → FieldType := fun k => match k with
  | 0 => .array .int
  | 1 => .array .int
  | 2 => .array .int
  | 3 => .array .int
  | 4 => .array .int
  | _ => .int
abbrev wsX30 : List Cond := u_ws RX3 TX3 6
theorem nmX3 : ∀ a, a < 6 → ∀ b, b < 6 → a ≠ b → (TX3 a).2.1 ≠ (TX3 b).2.1 := by decide +kernel
theorem tyX3_ok : ∀ k, k < 6 → parseFieldDescriptor (TX3 k).2.2.1 = some (tyX3 k) := by decide +kernel
abbrev cX3_init : ByteArray := prog_5_method_1_code
def yX3_init : MethodName := ⟨RX3, "<init>", "()V"⟩
abbrev cX3_write : ByteArray := prog_5_method_2_code
def yX3_write : MethodName := ⟨RX3, "write", "(IIII)I"⟩
abbrev cX3_handsOf : ByteArray := prog_5_method_3_code
def yX3_handsOf : MethodName := ⟨RX3, "handsOf", "(I)I"⟩
abbrev cX3_bottlesOf : ByteArray := prog_5_method_4_code
def yX3_bottlesOf : MethodName := ⟨RX3, "bottlesOf", "(I)I"⟩
def RX4 : String := "OldBottles$Reader"
def TX4 : u_T := fun k => match k with
  | 0 => ("OldBottles$Reader", "tape", "[B", true)
  | 1 => ("OldBottles$Reader", "code", "[I", true)
  | 2 => ("OldBottles$Reader", "size", "I", false)
  | 3 => ("OldBottles$Reader", "fault", "I", false)
  | 4 => ("OldBottles$Reader", "place", "I", false)
  | 5 => ("OldBottles$Reader", "token", "I", false)
  | 6 => ("OldBottles$Reader", "tokenAt", "I", false)
  | 7 => ("OldBottles$Reader", "number", "I", false)
  | _ => ("OldBottles$Reader", "codeSize", "I", false)
def tyX4 : Nat → FieldType := fun k => match k with
  | 0 => .array .byte
  | 1 => .array .int
  | 2 => .int
  | 3 => .int
  | 4 => .int
  | 5 => .int
  | 6 => .int
  | 7 => .int
  | _ => .int
abbrev wsX40 : List Cond := u_ws RX4 TX4 9
theorem nmX4 : ∀ a, a < 9 → ∀ b, b < 9 → a ≠ b → (TX4 a).2.1 ≠ (TX4 b).2.1 := by decide +kernel
theorem tyX4_ok : ∀ k, k < 9 → parseFieldDescriptor (TX4 k).2.2.1 = some (tyX4 k) := by decide +kernel
abbrev cX4_init : ByteArray := prog_6_method_1_code
def yX4_init : MethodName := ⟨RX4, "<init>", "()V"⟩
abbrev cX4_put : ByteArray := prog_6_method_2_code
def yX4_put : MethodName := ⟨RX4, "put", "(I)V"⟩
abbrev cX4_read : ByteArray := prog_6_method_3_code
def yX4_read : MethodName := ⟨RX4, "read", "()LOldBottles$Rule;"⟩
abbrev cX4_readClause : ByteArray := prog_6_method_4_code
def yX4_readClause : MethodName := ⟨RX4, "readClause", "(I)V"⟩
abbrev cX4_readOr : ByteArray := prog_6_method_5_code
def yX4_readOr : MethodName := ⟨RX4, "readOr", "(I)V"⟩
abbrev cX4_readAnd : ByteArray := prog_6_method_6_code
def yX4_readAnd : MethodName := ⟨RX4, "readAnd", "(I)V"⟩
abbrev cX4_readNot : ByteArray := prog_6_method_7_code
def yX4_readNot : MethodName := ⟨RX4, "readNot", "(I)V"⟩
abbrev cX4_readCompared : ByteArray := prog_6_method_8_code
def yX4_readCompared : MethodName := ⟨RX4, "readCompared", "(I)V"⟩
abbrev cX4_readSum : ByteArray := prog_6_method_9_code
def yX4_readSum : MethodName := ⟨RX4, "readSum", "(I)V"⟩
abbrev cX4_readTerm : ByteArray := prog_6_method_10_code
def yX4_readTerm : MethodName := ⟨RX4, "readTerm", "(I)V"⟩
abbrev cX4_readOne : ByteArray := prog_6_method_11_code
def yX4_readOne : MethodName := ⟨RX4, "readOne", "(I)V"⟩
abbrev cX4_take : ByteArray := prog_6_method_12_code
def yX4_take : MethodName := ⟨RX4, "take", "(I)V"⟩
abbrev cX4_fail : ByteArray := prog_6_method_13_code
def yX4_fail : MethodName := ⟨RX4, "fail", "()V"⟩
abbrev cX4_emit : ByteArray := prog_6_method_14_code
def yX4_emit : MethodName := ⟨RX4, "emit", "(I)V"⟩
abbrev cX4_next : ByteArray := prog_6_method_15_code
def yX4_next : MethodName := ⟨RX4, "next", "()V"⟩
abbrev cX4_sortOf : ByteArray := prog_6_method_16_code
def yX4_sortOf : MethodName := ⟨RX4, "sortOf", "(I)I"⟩
abbrev cX4_endOf : ByteArray := prog_6_method_17_code
def yX4_endOf : MethodName := ⟨RX4, "endOf", "(II)I"⟩
abbrev cX4_numberToken : ByteArray := prog_6_method_18_code
def yX4_numberToken : MethodName := ⟨RX4, "numberToken", "()I"⟩
abbrev cX4_wordToken : ByteArray := prog_6_method_19_code
def yX4_wordToken : MethodName := ⟨RX4, "wordToken", "()I"⟩
def RX5 : String := "OldBottles$Rule"
def TX5 : u_T := fun k => match k with
  | 0 => ("OldBottles$Rule", "code", "[I", true)
  | 1 => ("OldBottles$Rule", "priceAt", "I", true)
  | _ => ("OldBottles$Rule", "openAt", "I", true)
def tyX5 : Nat → FieldType := fun k => match k with
  | 0 => .array .int
  | 1 => .int
  | _ => .int
abbrev wsX50 : List Cond := u_ws RX5 TX5 3
theorem nmX5 : ∀ a, a < 3 → ∀ b, b < 3 → a ≠ b → (TX5 a).2.1 ≠ (TX5 b).2.1 := by decide +kernel
theorem tyX5_ok : ∀ k, k < 3 → parseFieldDescriptor (TX5 k).2.2.1 = some (tyX5 k) := by decide +kernel
abbrev cX5_init : ByteArray := prog_7_method_1_code
def yX5_init : MethodName := ⟨RX5, "<init>", "([III)V"⟩
abbrev cX5_valueOf : ByteArray := prog_7_method_2_code
def yX5_valueOf : MethodName := ⟨RX5, "valueOf", "(I[I[I)I"⟩
abbrev cX5_joined : ByteArray := prog_7_method_3_code
def yX5_joined : MethodName := ⟨RX5, "joined", "(III)I"⟩
abbrev cX5_truth : ByteArray := prog_7_method_4_code
def yX5_truth : MethodName := ⟨RX5, "truth", "(Z)I"⟩
def RX6 : String := "OldBottles$Sheet"
def TX6 : u_T := fun k => match k with
  | 0 => ("OldBottles$Sheet", "items", "[I", true)
  | 1 => ("OldBottles$Sheet", "sort", "I", false)
  | _ => ("OldBottles$Sheet", "size", "I", false)
def tyX6 : Nat → FieldType := fun k => match k with
  | 0 => .array .int
  | 1 => .int
  | _ => .int
abbrev wsX60 : List Cond := u_ws RX6 TX6 3
theorem nmX6 : ∀ a, a < 3 → ∀ b, b < 3 → a ≠ b → (TX6 a).2.1 ≠ (TX6 b).2.1 := by decide +kernel
theorem tyX6_ok : ∀ k, k < 3 → parseFieldDescriptor (TX6 k).2.2.1 = some (tyX6 k) := by decide +kernel
abbrev cX6_init : ByteArray := prog_8_method_1_code
def yX6_init : MethodName := ⟨RX6, "<init>", "()V"⟩
abbrev cX6_become : ByteArray := prog_8_method_2_code
def yX6_become : MethodName := ⟨RX6, "become", "(II)V"⟩
abbrev cX6_cut : ByteArray := prog_8_method_3_code
def yX6_cut : MethodName := ⟨RX6, "cut", "(I)I"⟩
abbrev cX6_has : ByteArray := prog_8_method_4_code
def yX6_has : MethodName := ⟨RX6, "has", "(II)Z"⟩
def RX7 : String := "OldBottles$Tongue"
def TX7 : u_T := fun k => match k with
  | 0 => ("OldBottles$Tongue", "given", "I", false)
  | 1 => ("OldBottles$Tongue", "untold", "I", false)
  | 2 => ("OldBottles$Tongue", "right", "I", false)
  | 3 => ("OldBottles$Tongue", "misled", "I", false)
  | _ => ("OldBottles$Tongue", "takenIn", "I", false)
def tyX7 : Nat → FieldType := fun k => match k with
  | 0 => .int
  | 1 => .int
  | 2 => .int
  | 3 => .int
  | _ => .int
abbrev wsX70 : List Cond := u_ws RX7 TX7 5
theorem nmX7 : ∀ a, a < 5 → ∀ b, b < 5 → a ≠ b → (TX7 a).2.1 ≠ (TX7 b).2.1 := by decide +kernel
theorem tyX7_ok : ∀ k, k < 5 → parseFieldDescriptor (TX7 k).2.2.1 = some (tyX7 k) := by decide +kernel
abbrev cX7_init : ByteArray := prog_9_method_1_code
def yX7_init : MethodName := ⟨RX7, "<init>", "()V"⟩
abbrev cX7_judge : ByteArray := prog_9_method_2_code
def yX7_judge : MethodName := ⟨RX7, "judge", "(IIZI)V"⟩
def RX8 : String := "OldBottles$Wine"
def TX8 : u_T := fun k => match k with
  | 0 => ("OldBottles$Wine", "number", "I", true)
  | 1 => ("OldBottles$Wine", "year", "I", true)
  | 2 => ("OldBottles$Wine", "made", "I", true)
  | 3 => ("OldBottles$Wine", "parts", "I", true)
  | 4 => ("OldBottles$Wine", "tastes", "I", true)
  | _ => ("OldBottles$Wine", "drunk", "I", false)
def tyX8 : Nat → FieldType := fun k => match k with
  | 0 => .int
  | 1 => .int
  | 2 => .int
  | 3 => .int
  | 4 => .int
  | _ => .int
abbrev wsX80 : List Cond := u_ws RX8 TX8 6
theorem nmX8 : ∀ a, a < 6 → ∀ b, b < 6 → a ≠ b → (TX8 a).2.1 ≠ (TX8 b).2.1 := by decide +kernel
theorem tyX8_ok : ∀ k, k < 6 → parseFieldDescriptor (TX8 k).2.2.1 = some (tyX8 k) := by decide +kernel
abbrev cX8_init : ByteArray := prog_10_method_1_code
def yX8_init : MethodName := ⟨RX8, "<init>", "(IIIII)V"⟩
abbrev cX8_taste : ByteArray := prog_10_method_2_code
def yX8_taste : MethodName := ⟨RX8, "taste", "(I)I"⟩
abbrev cX8_remaining : ByteArray := prog_10_method_3_code
def yX8_remaining : MethodName := ⟨RX8, "remaining", "()I"⟩
def RX9 : String := "OldBottles"
def TX9 : u_T := fun k => match k with
  | 0 => ("OldBottles", "wines", "[LOldBottles$Wine;", true)
  | 1 => ("OldBottles", "wineCount", "I", false)
  | 2 => ("OldBottles", "bottles", "[LOldBottles$Bottle;", true)
  | 3 => ("OldBottles", "bottleCount", "I", false)
  | 4 => ("OldBottles", "rules", "[LOldBottles$Rule;", true)
  | 5 => ("OldBottles", "ruleCount", "I", false)
  | 6 => ("OldBottles", "ruleInForce", "I", false)
  | 7 => ("OldBottles", "pages", "LOldBottles$Book;", true)
  | 8 => ("OldBottles", "ledger", "LOldBottles$Ledger;", true)
  | 9 => ("OldBottles", "reader", "LOldBottles$Reader;", true)
  | 10 => ("OldBottles", "tongues", "[LOldBottles$Tongue;", true)
  | 11 => ("OldBottles", "sheets", "[LOldBottles$Sheet;", true)
  | 12 => ("OldBottles", "kept", "LOldBottles$Image;", true)
  | 13 => ("OldBottles", "names", "[I", true)
  | 14 => ("OldBottles", "stack", "[I", true)
  | 15 => ("OldBottles", "doubts", "[I", true)
  | _ => ("OldBottles", "costs", "[I", true)
def tyX9 : Nat → FieldType := fun k => match k with
  | 0 => .array (.object "OldBottles$Wine")
  | 1 => .int
  | 2 => .array (.object "OldBottles$Bottle")
  | 3 => .int
  | 4 => .array (.object "OldBottles$Rule")
  | 5 => .int
  | 6 => .int
  | 7 => .object "OldBottles$Book"
  | 8 => .object "OldBottles$Ledger"
  | 9 => .object "OldBottles$Reader"
  | 10 => .array (.object "OldBottles$Tongue")
  | 11 => .array (.object "OldBottles$Sheet")
  | 12 => .object "OldBottles$Image"
  | 13 => .array .int
  | 14 => .array .int
  | 15 => .array .int
  | _ => .array .int
abbrev wsX90 : List Cond := u_ws RX9 TX9 17
theorem nmX9 : ∀ a, a < 17 → ∀ b, b < 17 → a ≠ b → (TX9 a).2.1 ≠ (TX9 b).2.1 := by decide +kernel
theorem tyX9_ok : ∀ k, k < 17 → parseFieldDescriptor (TX9 k).2.2.1 = some (tyX9 k) := by decide +kernel
abbrev cX9_init : ByteArray := prog_1_method_1_code
def yX9_init : MethodName := ⟨RX9, "<init>", "()V"⟩
abbrev cX9_wine : ByteArray := prog_1_method_2_code
def yX9_wine : MethodName := ⟨RX9, "wine", "(IIII)I"⟩
abbrev cX9_drunk : ByteArray := prog_1_method_3_code
def yX9_drunk : MethodName := ⟨RX9, "drunk", "(II)I"⟩
abbrev cX9_book : ByteArray := prog_1_method_4_code
def yX9_book : MethodName := ⟨RX9, "book", "(IIII)I"⟩
abbrev cX9_test : ByteArray := prog_1_method_5_code
def yX9_test : MethodName := ⟨RX9, "test", "(II)I"⟩
abbrev cX9_bottle : ByteArray := prog_1_method_6_code
def yX9_bottle : MethodName := ⟨RX9, "bottle", "(III)I"⟩
abbrev cX9_told : ByteArray := prog_1_method_7_code
def yX9_told : MethodName := ⟨RX9, "told", "(II)I"⟩
abbrev cX9_shows : ByteArray := prog_1_method_8_code
def yX9_shows : MethodName := ⟨RX9, "shows", "(II)I"⟩
abbrev cX9_sale : ByteArray := prog_1_method_9_code
def yX9_sale : MethodName := ⟨RX9, "sale", "(IIII)I"⟩
abbrev cX9_feed : ByteArray := prog_1_method_10_code
def yX9_feed : MethodName := ⟨RX9, "feed", "(IJ)I"⟩
abbrev cX9_text : ByteArray := prog_1_method_11_code
def yX9_text : MethodName := ⟨RX9, "text", "()I"⟩
abbrev cX9_force : ByteArray := prog_1_method_12_code
def yX9_force : MethodName := ⟨RX9, "force", "(I)I"⟩
abbrev cX9_left : ByteArray := prog_1_method_13_code
def yX9_left : MethodName := ⟨RX9, "left", "(II)I"⟩
abbrev cX9_odds : ByteArray := prog_1_method_14_code
def yX9_odds : MethodName := ⟨RX9, "odds", "(II)J"⟩
abbrev cX9_source : ByteArray := prog_1_method_15_code
def yX9_source : MethodName := ⟨RX9, "source", "(II)I"⟩
abbrev cX9_worst : ByteArray := prog_1_method_16_code
def yX9_worst : MethodName := ⟨RX9, "worst", "()I"⟩
abbrev cX9_mix : ByteArray := prog_1_method_17_code
def yX9_mix : MethodName := ⟨RX9, "mix", "(IIII)I"⟩
abbrev cX9_said : ByteArray := prog_1_method_18_code
def yX9_said : MethodName := ⟨RX9, "said", "(IIII)I"⟩
abbrev cX9_tongue : ByteArray := prog_1_method_19_code
def yX9_tongue : MethodName := ⟨RX9, "tongue", "(II)I"⟩
abbrev cX9_opened : ByteArray := prog_1_method_20_code
def yX9_opened : MethodName := ⟨RX9, "opened", "(II)I"⟩
abbrev cX9_owed : ByteArray := prog_1_method_21_code
def yX9_owed : MethodName := ⟨RX9, "owed", "(I)J"⟩
abbrev cX9_chain : ByteArray := prog_1_method_22_code
def yX9_chain : MethodName := ⟨RX9, "chain", "(I)I"⟩
abbrev cX9_falls : ByteArray := prog_1_method_23_code
def yX9_falls : MethodName := ⟨RX9, "falls", "(II)J"⟩
abbrev cX9_saw : ByteArray := prog_1_method_24_code
def yX9_saw : MethodName := ⟨RX9, "saw", "(I)I"⟩
abbrev cX9_image : ByteArray := prog_1_method_25_code
def yX9_image : MethodName := ⟨RX9, "image", "()I"⟩
abbrev cX9_back : ByteArray := prog_1_method_26_code
def yX9_back : MethodName := ⟨RX9, "back", "()I"⟩
abbrev cX9_count : ByteArray := prog_1_method_27_code
def yX9_count : MethodName := ⟨RX9, "count", "(I)I"⟩
abbrev cX9_sheet : ByteArray := prog_1_method_28_code
def yX9_sheet : MethodName := ⟨RX9, "sheet", "(III)I"⟩
abbrev cX9_cell : ByteArray := prog_1_method_29_code
def yX9_cell : MethodName := ⟨RX9, "cell", "(III)I"⟩
abbrev cX9_copy : ByteArray := prog_1_method_30_code
def yX9_copy : MethodName := ⟨RX9, "copy", "(IIIII)I"⟩
abbrev cX9_sales : ByteArray := prog_1_method_31_code
def yX9_sales : MethodName := ⟨RX9, "sales", "(IIII)I"⟩
abbrev cX9_taken : ByteArray := prog_1_method_32_code
def yX9_taken : MethodName := ⟨RX9, "taken", "(II)I"⟩
abbrev cX9_isUpTo : ByteArray := prog_1_method_33_code
def yX9_isUpTo : MethodName := ⟨RX9, "isUpTo", "(II)Z"⟩
abbrev cX9_isBelow : ByteArray := prog_1_method_34_code
def yX9_isBelow : MethodName := ⟨RX9, "isBelow", "(II)Z"⟩
abbrev cX9_areParts : ByteArray := prog_1_method_35_code
def yX9_areParts : MethodName := ⟨RX9, "areParts", "(I)Z"⟩
abbrev cX9_partOf : ByteArray := prog_1_method_36_code
def yX9_partOf : MethodName := ⟨RX9, "partOf", "(II)I"⟩
abbrev cX9_weightOf : ByteArray := prog_1_method_37_code
def yX9_weightOf : MethodName := ⟨RX9, "weightOf", "(I)I"⟩
abbrev cX9_isOfKind : ByteArray := prog_1_method_38_code
def yX9_isOfKind : MethodName := ⟨RX9, "isOfKind", "(II)Z"⟩
abbrev cX9_commonDivisor : ByteArray := prog_1_method_39_code
def yX9_commonDivisor : MethodName := ⟨RX9, "commonDivisor", "(II)I"⟩
abbrev cX9_wineAt : ByteArray := prog_1_method_40_code
def yX9_wineAt : MethodName := ⟨RX9, "wineAt", "(I)LOldBottles$Wine;"⟩
abbrev cX9_bottleAt : ByteArray := prog_1_method_41_code
def yX9_bottleAt : MethodName := ⟨RX9, "bottleAt", "(I)LOldBottles$Bottle;"⟩
abbrev cX9_tongueAt : ByteArray := prog_1_method_42_code
def yX9_tongueAt : MethodName := ⟨RX9, "tongueAt", "(I)LOldBottles$Tongue;"⟩
abbrev cX9_sheetAt : ByteArray := prog_1_method_43_code
def yX9_sheetAt : MethodName := ⟨RX9, "sheetAt", "(I)LOldBottles$Sheet;"⟩
abbrev cX9_barBits : ByteArray := prog_1_method_44_code
def yX9_barBits : MethodName := ⟨RX9, "barBits", "(LOldBottles$Bottle;)I"⟩
abbrev cX9_oddBits : ByteArray := prog_1_method_45_code
def yX9_oddBits : MethodName := ⟨RX9, "oddBits", "(LOldBottles$Bottle;)I"⟩
abbrev cX9_isBarred : ByteArray := prog_1_method_46_code
def yX9_isBarred : MethodName := ⟨RX9, "isBarred", "(LOldBottles$Bottle;)Z"⟩
abbrev cX9_barredBottles : ByteArray := prog_1_method_47_code
def yX9_barredBottles : MethodName := ⟨RX9, "barredBottles", "()I"⟩
abbrev cX9_soldBottles : ByteArray := prog_1_method_48_code
def yX9_soldBottles : MethodName := ⟨RX9, "soldBottles", "()I"⟩
abbrev cX9_soldOf : ByteArray := prog_1_method_49_code
def yX9_soldOf : MethodName := ⟨RX9, "soldOf", "(I)I"⟩
abbrev cX9_soldBy : ByteArray := prog_1_method_50_code
def yX9_soldBy : MethodName := ⟨RX9, "soldBy", "(IZ)I"⟩
abbrev cX9_judged : ByteArray := prog_1_method_51_code
def yX9_judged : MethodName := ⟨RX9, "judged", "(LOldBottles$Bottle;I)I"⟩
abbrev cX9_learnNames : ByteArray := prog_1_method_52_code
def yX9_learnNames : MethodName := ⟨RX9, "learnNames", "(LOldBottles$Bottle;)V"⟩
abbrev cX9_far : ByteArray := prog_1_method_53_code
def yX9_far : MethodName := ⟨RX9, "far", "(LOldBottles$Wine;LOldBottles$Wine;ILOldBottles$Wine;)I"⟩
abbrev cX9_weighDoubts : ByteArray := prog_1_method_54_code
def yX9_weighDoubts : MethodName := ⟨RX9, "weighDoubts", "()I"⟩
abbrev cX9_lowestBit : ByteArray := prog_1_method_55_code
def yX9_lowestBit : MethodName := ⟨RX9, "lowestBit", "(I)I"⟩
abbrev cX9_sumBelow : ByteArray := prog_1_method_56_code
def yX9_sumBelow : MethodName := ⟨RX9, "sumBelow", "([II)I"⟩
abbrev cX9_passOnAgain : ByteArray := prog_1_method_57_code
def yX9_passOnAgain : MethodName := ⟨RX9, "passOnAgain", "()V"⟩
def RX10 : String := "OldBottlesModel"
def TX10 : u_T := fun k => match k with
  | 0 => ("OldBottlesModel", "thrown", "I", false)
  | 1 => ("OldBottlesModel", "texts", "[I", true)
  | 2 => ("OldBottlesModel", "textSize", "[I", true)
  | 3 => ("OldBottlesModel", "textCount", "I", false)
  | 4 => ("OldBottlesModel", "rule", "I", false)
  | 5 => ("OldBottlesModel", "tape", "[I", true)
  | 6 => ("OldBottlesModel", "taped", "I", false)
  | 7 => ("OldBottlesModel", "year", "[I", true)
  | 8 => ("OldBottlesModel", "made", "[I", true)
  | 9 => ("OldBottlesModel", "drunk", "[I", true)
  | 10 => ("OldBottlesModel", "wineParts", "[I", true)
  | 11 => ("OldBottlesModel", "taste", "[I", true)
  | 12 => ("OldBottlesModel", "wines", "I", false)
  | 13 => ("OldBottlesModel", "usedFrom", "[I", true)
  | 14 => ("OldBottlesModel", "usedTill", "[I", true)
  | 15 => ("OldBottlesModel", "testFrom", "[I", true)
  | 16 => ("OldBottlesModel", "kind", "[I", true)
  | 17 => ("OldBottlesModel", "says", "[I", true)
  | 18 => ("OldBottlesModel", "holds", "[I", true)
  | 19 => ("OldBottlesModel", "own", "[I", true)
  | 20 => ("OldBottlesModel", "bottles", "I", false)
  | 21 => ("OldBottlesModel", "saleBottle", "[I", true)
  | 22 => ("OldBottlesModel", "seller", "[I", true)
  | 23 => ("OldBottlesModel", "buyer", "[I", true)
  | 24 => ("OldBottlesModel", "paid", "[I", true)
  | 25 => ("OldBottlesModel", "saleYear", "[I", true)
  | 26 => ("OldBottlesModel", "saleMany", "I", false)
  | 27 => ("OldBottlesModel", "from", "I", false)
  | 28 => ("OldBottlesModel", "size", "I", false)
  | 29 => ("OldBottlesModel", "token", "I", false)
  | 30 => ("OldBottlesModel", "tokenAt", "I", false)
  | 31 => ("OldBottlesModel", "tokenWorth", "J", false)
  | 32 => ("OldBottlesModel", "here", "I", false)
  | 33 => ("OldBottlesModel", "open", "I", false)
  | 34 => ("OldBottlesModel", "bad", "Z", false)
  | 35 => ("OldBottlesModel", "fault", "I", false)
  | 36 => ("OldBottlesModel", "aboutBars", "I", false)
  | 37 => ("OldBottlesModel", "aboutOdd", "I", false)
  | 38 => ("OldBottlesModel", "aboutGap", "I", false)
  | 39 => ("OldBottlesModel", "aboutYear", "I", false)
  | 40 => ("OldBottlesModel", "aboutMade", "I", false)
  | 41 => ("OldBottlesModel", "aboutSold", "I", false)
  | 42 => ("OldBottlesModel", "given", "[I", true)
  | 43 => ("OldBottlesModel", "gaveBottle", "[I", true)
  | 44 => ("OldBottlesModel", "gaveTold", "[I", true)
  | 45 => ("OldBottlesModel", "gaveWine", "[I", true)
  | 46 => ("OldBottlesModel", "doubts", "[I", true)
  | 47 => ("OldBottlesModel", "opens", "[I", true)
  | 48 => ("OldBottlesModel", "imageDrunk", "[I", true)
  | 49 => ("OldBottlesModel", "imageFrom", "[I", true)
  | 50 => ("OldBottlesModel", "imageTill", "[I", true)
  | 51 => ("OldBottlesModel", "imageTest", "[I", true)
  | 52 => ("OldBottlesModel", "hasImage", "Z", false)
  | 53 => ("OldBottlesModel", "imageWines", "I", false)
  | 54 => ("OldBottlesModel", "imageSales", "I", false)
  | 55 => ("OldBottlesModel", "imageRule", "I", false)
  | 56 => ("OldBottlesModel", "isThere", "[Z", true)
  | 57 => ("OldBottlesModel", "sorts", "[I", true)
  | 58 => ("OldBottlesModel", "sheetSize", "[I", true)
  | _ => ("OldBottlesModel", "items", "[I", true)
def tyX10 : Nat → FieldType := fun k => match k with
  | 0 => .int
  | 1 => .array .int
  | 2 => .array .int
  | 3 => .int
  | 4 => .int
  | 5 => .array .int
  | 6 => .int
  | 7 => .array .int
  | 8 => .array .int
  | 9 => .array .int
  | 10 => .array .int
  | 11 => .array .int
  | 12 => .int
  | 13 => .array .int
  | 14 => .array .int
  | 15 => .array .int
  | 16 => .array .int
  | 17 => .array .int
  | 18 => .array .int
  | 19 => .array .int
  | 20 => .int
  | 21 => .array .int
  | 22 => .array .int
  | 23 => .array .int
  | 24 => .array .int
  | 25 => .array .int
  | 26 => .int
  | 27 => .int
  | 28 => .int
  | 29 => .int
  | 30 => .int
  | 31 => .long
  | 32 => .int
  | 33 => .int
  | 34 => .boolean
  | 35 => .int
  | 36 => .int
  | 37 => .int
  | 38 => .int
  | 39 => .int
  | 40 => .int
  | 41 => .int
  | 42 => .array .int
  | 43 => .array .int
  | 44 => .array .int
  | 45 => .array .int
  | 46 => .array .int
  | 47 => .array .int
  | 48 => .array .int
  | 49 => .array .int
  | 50 => .array .int
  | 51 => .array .int
  | 52 => .boolean
  | 53 => .int
  | 54 => .int
  | 55 => .int
  | 56 => .array .boolean
  | 57 => .array .int
  | 58 => .array .int
  | _ => .array .int
abbrev wsX100 : List Cond := u_ws RX10 TX10 60
theorem nmX10 : ∀ a, a < 60 → ∀ b, b < 60 → a ≠ b → (TX10 a).2.1 ≠ (TX10 b).2.1 := by decide +kernel
theorem tyX10_ok : ∀ k, k < 60 → parseFieldDescriptor (TX10 k).2.2.1 = some (tyX10 k) := by decide +kernel
abbrev cX10_in : ByteArray := prog_12_method_2_code
def yX10_in : MethodName := ⟨RX10, "in", "(JJJ)Z"⟩
abbrev cX10_init : ByteArray := prog_12_method_3_code
def yX10_init : MethodName := ⟨RX10, "<init>", "()V"⟩
abbrev cX10_spell : ByteArray := prog_12_method_4_code
def yX10_spell : MethodName := ⟨RX10, "spell", "(IJ)V"⟩
abbrev cX10_isWine : ByteArray := prog_12_method_5_code
def yX10_isWine : MethodName := ⟨RX10, "isWine", "(I)Z"⟩
abbrev cX10_partOf : ByteArray := prog_12_method_6_code
def yX10_partOf : MethodName := ⟨RX10, "partOf", "(II)I"⟩
abbrev cX10_areParts : ByteArray := prog_12_method_7_code
def yX10_areParts : MethodName := ⟨RX10, "areParts", "(I)Z"⟩
abbrev cX10_wine : ByteArray := prog_12_method_8_code
def yX10_wine : MethodName := ⟨RX10, "wine", "(IIII)I"⟩
abbrev cX10_tasteOf : ByteArray := prog_12_method_9_code
def yX10_tasteOf : MethodName := ⟨RX10, "tasteOf", "(II)I"⟩
abbrev cX10_drunk : ByteArray := prog_12_method_10_code
def yX10_drunk : MethodName := ⟨RX10, "drunk", "(II)I"⟩
abbrev cX10_book : ByteArray := prog_12_method_11_code
def yX10_book : MethodName := ⟨RX10, "book", "(IIII)I"⟩
abbrev cX10_test : ByteArray := prog_12_method_12_code
def yX10_test : MethodName := ⟨RX10, "test", "(II)I"⟩
abbrev cX10_isBottle : ByteArray := prog_12_method_13_code
def yX10_isBottle : MethodName := ⟨RX10, "isBottle", "(I)Z"⟩
abbrev cX10_bottle : ByteArray := prog_12_method_14_code
def yX10_bottle : MethodName := ⟨RX10, "bottle", "(III)I"⟩
abbrev cX10_showsOf : ByteArray := prog_12_method_15_code
def yX10_showsOf : MethodName := ⟨RX10, "showsOf", "(II)I"⟩
abbrev cX10_tastesOf : ByteArray := prog_12_method_16_code
def yX10_tastesOf : MethodName := ⟨RX10, "tastesOf", "(II)I"⟩
abbrev cX10_shows : ByteArray := prog_12_method_17_code
def yX10_shows : MethodName := ⟨RX10, "shows", "(II)I"⟩
abbrev cX10_weightOf : ByteArray := prog_12_method_18_code
def yX10_weightOf : MethodName := ⟨RX10, "weightOf", "(I)I"⟩
abbrev cX10_bars : ByteArray := prog_12_method_19_code
def yX10_bars : MethodName := ⟨RX10, "bars", "(II)Z"⟩
abbrev cX10_isOdd : ByteArray := prog_12_method_20_code
def yX10_isOdd : MethodName := ⟨RX10, "isOdd", "(II)Z"⟩
abbrev cX10_barsOf : ByteArray := prog_12_method_21_code
def yX10_barsOf : MethodName := ⟨RX10, "barsOf", "(I)I"⟩
abbrev cX10_oddsOf : ByteArray := prog_12_method_22_code
def yX10_oddsOf : MethodName := ⟨RX10, "oddsOf", "(I)I"⟩
abbrev cX10_isBarred : ByteArray := prog_12_method_23_code
def yX10_isBarred : MethodName := ⟨RX10, "isBarred", "(I)Z"⟩
abbrev cX10_bitsOf : ByteArray := prog_12_method_24_code
def yX10_bitsOf : MethodName := ⟨RX10, "bitsOf", "(I)I"⟩
abbrev cX10_told : ByteArray := prog_12_method_25_code
def yX10_told : MethodName := ⟨RX10, "told", "(II)I"⟩
abbrev cX10_lastOf : ByteArray := prog_12_method_26_code
def yX10_lastOf : MethodName := ⟨RX10, "lastOf", "(II)I"⟩
abbrev cX10_sale : ByteArray := prog_12_method_27_code
def yX10_sale : MethodName := ⟨RX10, "sale", "(IIII)I"⟩
abbrev cX10_gapOf : ByteArray := prog_12_method_28_code
def yX10_gapOf : MethodName := ⟨RX10, "gapOf", "(I)I"⟩
abbrev cX10_ownerOf : ByteArray := prog_12_method_29_code
def yX10_ownerOf : MethodName := ⟨RX10, "ownerOf", "(I)I"⟩
abbrev cX10_soldOf : ByteArray := prog_12_method_30_code
def yX10_soldOf : MethodName := ⟨RX10, "soldOf", "(I)I"⟩
abbrev cX10_feed : ByteArray := prog_12_method_31_code
def yX10_feed : MethodName := ⟨RX10, "feed", "(IJ)I"⟩
abbrev cX10_byteAt : ByteArray := prog_12_method_32_code
def yX10_byteAt : MethodName := ⟨RX10, "byteAt", "(I)I"⟩
abbrev cX10_next : ByteArray := prog_12_method_33_code
def yX10_next : MethodName := ⟨RX10, "next", "()V"⟩
abbrev cX10_fail : ByteArray := prog_12_method_34_code
def yX10_fail : MethodName := ⟨RX10, "fail", "()V"⟩
abbrev cX10_isWord : ByteArray := prog_12_method_35_code
def yX10_isWord : MethodName := ⟨RX10, "isWord", "(J)Z"⟩
abbrev cX10_isSign : ByteArray := prog_12_method_36_code
def yX10_isSign : MethodName := ⟨RX10, "isSign", "(I)Z"⟩
abbrev cX10_opens : ByteArray := prog_12_method_37_code
def yX10_opens : MethodName := ⟨RX10, "opens", "()Z"⟩
abbrev cX10_name : ByteArray := prog_12_method_38_code
def yX10_name : MethodName := ⟨RX10, "name", "()I"⟩
abbrev cX10_one : ByteArray := prog_12_method_39_code
def yX10_one : MethodName := ⟨RX10, "one", "()I"⟩
abbrev cX10_term : ByteArray := prog_12_method_40_code
def yX10_term : MethodName := ⟨RX10, "term", "()I"⟩
abbrev cX10_added : ByteArray := prog_12_method_41_code
def yX10_added : MethodName := ⟨RX10, "added", "()I"⟩
abbrev cX10_not : ByteArray := prog_12_method_42_code
def yX10_not : MethodName := ⟨RX10, "not", "()I"⟩
abbrev cX10_both : ByteArray := prog_12_method_43_code
def yX10_both : MethodName := ⟨RX10, "both", "()I"⟩
abbrev cX10_either : ByteArray := prog_12_method_44_code
def yX10_either : MethodName := ⟨RX10, "either", "()I"⟩
abbrev cX10_part : ByteArray := prog_12_method_45_code
def yX10_part : MethodName := ⟨RX10, "part", "(J)I"⟩
abbrev cX10_read : ByteArray := prog_12_method_46_code
def yX10_read : MethodName := ⟨RX10, "read", "(II)I"⟩
abbrev cX10_text : ByteArray := prog_12_method_47_code
def yX10_text : MethodName := ⟨RX10, "text", "()I"⟩
abbrev cX10_force : ByteArray := prog_12_method_48_code
def yX10_force : MethodName := ⟨RX10, "force", "(I)I"⟩
abbrev cX10_within : ByteArray := prog_12_method_49_code
def yX10_within : MethodName := ⟨RX10, "within", "(III)I"⟩
abbrev cX10_saysOf : ByteArray := prog_12_method_50_code
def yX10_saysOf : MethodName := ⟨RX10, "saysOf", "(II)I"⟩
abbrev cX10_doubtOf : ByteArray := prog_12_method_51_code
def yX10_doubtOf : MethodName := ⟨RX10, "doubtOf", "(I)I"⟩
abbrev cX10_priceOf : ByteArray := prog_12_method_52_code
def yX10_priceOf : MethodName := ⟨RX10, "priceOf", "(I)I"⟩
abbrev cX10_openOf : ByteArray := prog_12_method_53_code
def yX10_openOf : MethodName := ⟨RX10, "openOf", "(I)I"⟩
abbrev cX10_left : ByteArray := prog_12_method_54_code
def yX10_left : MethodName := ⟨RX10, "left", "(II)I"⟩
abbrev cX10_common : ByteArray := prog_12_method_55_code
def yX10_common : MethodName := ⟨RX10, "common", "(JJ)J"⟩
abbrev cX10_odds : ByteArray := prog_12_method_56_code
def yX10_odds : MethodName := ⟨RX10, "odds", "(II)J"⟩
abbrev cX10_salesBy : ByteArray := prog_12_method_57_code
def yX10_salesBy : MethodName := ⟨RX10, "salesBy", "(I)I"⟩
abbrev cX10_barredBy : ByteArray := prog_12_method_58_code
def yX10_barredBy : MethodName := ⟨RX10, "barredBy", "(I)I"⟩
abbrev cX10_isHand : ByteArray := prog_12_method_59_code
def yX10_isHand : MethodName := ⟨RX10, "isHand", "(I)Z"⟩
abbrev cX10_source : ByteArray := prog_12_method_60_code
def yX10_source : MethodName := ⟨RX10, "source", "(II)I"⟩
abbrev cX10_worst : ByteArray := prog_12_method_61_code
def yX10_worst : MethodName := ⟨RX10, "worst", "()I"⟩
abbrev cX10_farOf : ByteArray := prog_12_method_62_code
def yX10_farOf : MethodName := ⟨RX10, "farOf", "(IIII)I"⟩
abbrev cX10_mix : ByteArray := prog_12_method_63_code
def yX10_mix : MethodName := ⟨RX10, "mix", "(IIII)I"⟩
abbrev cX10_isTongue : ByteArray := prog_12_method_64_code
def yX10_isTongue : MethodName := ⟨RX10, "isTongue", "(I)Z"⟩
abbrev cX10_said : ByteArray := prog_12_method_65_code
def yX10_said : MethodName := ⟨RX10, "said", "(IIII)I"⟩
abbrev cX10_withinOf : ByteArray := prog_12_method_66_code
def yX10_withinOf : MethodName := ⟨RX10, "withinOf", "(I)I"⟩
abbrev cX10_tongue : ByteArray := prog_12_method_67_code
def yX10_tongue : MethodName := ⟨RX10, "tongue", "(II)I"⟩
abbrev cX10_opened : ByteArray := prog_12_method_68_code
def yX10_opened : MethodName := ⟨RX10, "opened", "(II)I"⟩
abbrev cX10_owed : ByteArray := prog_12_method_69_code
def yX10_owed : MethodName := ⟨RX10, "owed", "(I)J"⟩
abbrev cX10_chain : ByteArray := prog_12_method_70_code
def yX10_chain : MethodName := ⟨RX10, "chain", "(I)I"⟩
abbrev cX10_handsOf : ByteArray := prog_12_method_71_code
def yX10_handsOf : MethodName := ⟨RX10, "handsOf", "(I)I"⟩
abbrev cX10_falls : ByteArray := prog_12_method_72_code
def yX10_falls : MethodName := ⟨RX10, "falls", "(II)J"⟩
abbrev cX10_saw : ByteArray := prog_12_method_73_code
def yX10_saw : MethodName := ⟨RX10, "saw", "(I)I"⟩
abbrev cX10_image : ByteArray := prog_12_method_74_code
def yX10_image : MethodName := ⟨RX10, "image", "()I"⟩
abbrev cX10_back : ByteArray := prog_12_method_75_code
def yX10_back : MethodName := ⟨RX10, "back", "()I"⟩
abbrev cX10_count : ByteArray := prog_12_method_76_code
def yX10_count : MethodName := ⟨RX10, "count", "(I)I"⟩
abbrev cX10_isSheet : ByteArray := prog_12_method_77_code
def yX10_isSheet : MethodName := ⟨RX10, "isSheet", "(I)Z"⟩
abbrev cX10_sheet : ByteArray := prog_12_method_78_code
def yX10_sheet : MethodName := ⟨RX10, "sheet", "(III)I"⟩
abbrev cX10_cell : ByteArray := prog_12_method_79_code
def yX10_cell : MethodName := ⟨RX10, "cell", "(III)I"⟩
abbrev cX10_copy : ByteArray := prog_12_method_80_code
def yX10_copy : MethodName := ⟨RX10, "copy", "(IIIII)I"⟩
abbrev cX10_sales : ByteArray := prog_12_method_81_code
def yX10_sales : MethodName := ⟨RX10, "sales", "(IIII)I"⟩
abbrev cX10_over : ByteArray := prog_12_method_82_code
def yX10_over : MethodName := ⟨RX10, "over", "(I)I"⟩
abbrev cX10_taken : ByteArray := prog_12_method_83_code
def yX10_taken : MethodName := ⟨RX10, "taken", "(II)I"⟩
def RJx145de : String := "java/io/Serializable"
def TJx145de : u_T := fun k => match k with
  | _ => ("", "", "", false)
def tyJx145de : Nat → FieldType := fun k => match k with
  | _ => .int
theorem nmJx145de : ∀ a, a < 0 → ∀ b, b < 0 → a ≠ b → (TJx145de a).2.1 ≠ (TJx145de b).2.1 := by decide +kernel
theorem tyJx145de_ok : ∀ k, k < 0 → parseFieldDescriptor (TJx145de k).2.2.1 = some (tyJx145de k) := by decide +kernel
def RJx9f9b0 : String := "java/lang/CharSequence"
def TJx9f9b0 : u_T := fun k => match k with
  | _ => ("", "", "", false)
def tyJx9f9b0 : Nat → FieldType := fun k => match k with
  | _ => .int
theorem nmJx9f9b0 : ∀ a, a < 0 → ∀ b, b < 0 → a ≠ b → (TJx9f9b0 a).2.1 ≠ (TJx9f9b0 b).2.1 := by decide +kernel
theorem tyJx9f9b0_ok : ∀ k, k < 0 → parseFieldDescriptor (TJx9f9b0 k).2.2.1 = some (tyJx9f9b0 k) := by decide +kernel
def RJ11 : String := "java/lang/Character"
def TJ11 : u_T := fun k => match k with
  | _ => ("", "", "", false)
def tyJ11 : Nat → FieldType := fun k => match k with
  | _ => .int
abbrev wsJ110 : List Cond := u_ws RJ11 TJ11 0
theorem nmJ11 : ∀ a, a < 0 → ∀ b, b < 0 → a ≠ b → (TJ11 a).2.1 ≠ (TJ11 b).2.1 := by decide +kernel
theorem tyJ11_ok : ∀ k, k < 0 → parseFieldDescriptor (TJ11 k).2.2.1 = some (tyJ11 k) := by decide +kernel
abbrev cJ11_isValidCodePoint_9a6ad : ByteArray := prog_13_method_11_code
def yJ11_isValidCodePoint_9a6ad : MethodName := ⟨RJ11, "isValidCodePoint", "(I)Z"⟩
abbrev cJ11_highSurrogate_5068e : ByteArray := prog_13_method_28_code
def yJ11_highSurrogate_5068e : MethodName := ⟨RJ11, "highSurrogate", "(I)C"⟩
abbrev cJ11_lowSurrogate_5068e : ByteArray := prog_13_method_29_code
def yJ11_lowSurrogate_5068e : MethodName := ⟨RJ11, "lowSurrogate", "(I)C"⟩
def RJx8e188 : String := "java/lang/Cloneable"
def TJx8e188 : u_T := fun k => match k with
  | _ => ("", "", "", false)
def tyJx8e188 : Nat → FieldType := fun k => match k with
  | _ => .int
theorem nmJx8e188 : ∀ a, a < 0 → ∀ b, b < 0 → a ≠ b → (TJx8e188 a).2.1 ≠ (TJx8e188 b).2.1 := by decide +kernel
theorem tyJx8e188_ok : ∀ k, k < 0 → parseFieldDescriptor (TJx8e188 k).2.2.1 = some (tyJx8e188 k) := by decide +kernel
def RJxb160c : String := "java/lang/Comparable"
def TJxb160c : u_T := fun k => match k with
  | _ => ("", "", "", false)
def tyJxb160c : Nat → FieldType := fun k => match k with
  | _ => .int
theorem nmJxb160c : ∀ a, a < 0 → ∀ b, b < 0 → a ≠ b → (TJxb160c a).2.1 ≠ (TJxb160c b).2.1 := by decide +kernel
theorem tyJxb160c_ok : ∀ k, k < 0 → parseFieldDescriptor (TJxb160c k).2.2.1 = some (tyJxb160c k) := by decide +kernel
def RJ6 : String := "java/lang/Integer"
def TJ6 : u_T := fun k => match k with
  | _ => ("", "", "", false)
def tyJ6 : Nat → FieldType := fun k => match k with
  | _ => .int
abbrev wsJ60 : List Cond := u_ws RJ6 TJ6 0
theorem nmJ6 : ∀ a, a < 0 → ∀ b, b < 0 → a ≠ b → (TJ6 a).2.1 ≠ (TJ6 b).2.1 := by decide +kernel
theorem tyJ6_ok : ∀ k, k < 0 → parseFieldDescriptor (TJ6 k).2.2.1 = some (tyJ6 k) := by decide +kernel
abbrev cJ6_bitCount_0f7a4 : ByteArray := prog_15_method_49_code
def yJ6_bitCount_0f7a4 : MethodName := ⟨RJ6, "bitCount", "(I)I"⟩
def RJ9 : String := "java/lang/Math"
def TJ9 : u_T := fun k => match k with
  | _ => ("", "", "", false)
def tyJ9 : Nat → FieldType := fun k => match k with
  | _ => .int
abbrev wsJ90 : List Cond := u_ws RJ9 TJ9 0
theorem nmJ9 : ∀ a, a < 0 → ∀ b, b < 0 → a ≠ b → (TJ9 a).2.1 ≠ (TJ9 b).2.1 := by decide +kernel
theorem tyJ9_ok : ∀ k, k < 0 → parseFieldDescriptor (TJ9 k).2.2.1 = some (tyJ9 k) := by decide +kernel
abbrev cJ9_abs_0f7a4 : ByteArray := prog_16_method_59_code
def yJ9_abs_0f7a4 : MethodName := ⟨RJ9, "abs", "(I)I"⟩
abbrev cJ9_max_7cf53 : ByteArray := prog_16_method_65_code
def yJ9_max_7cf53 : MethodName := ⟨RJ9, "max", "(II)I"⟩
abbrev cJ9_min_7cf53 : ByteArray := prog_16_method_69_code
def yJ9_min_7cf53 : MethodName := ⟨RJ9, "min", "(II)I"⟩
def RJ0 : String := "java/lang/String"
def TJ0 : u_T := fun k => match k with
  | _ => ("", "", "", false)
def tyJ0 : Nat → FieldType := fun k => match k with
  | _ => .int
abbrev wsJ00 : List Cond := u_ws RJ0 TJ0 0
theorem nmJ0 : ∀ a, a < 0 → ∀ b, b < 0 → a ≠ b → (TJ0 a).2.1 ≠ (TJ0 b).2.1 := by decide +kernel
theorem tyJ0_ok : ∀ k, k < 0 → parseFieldDescriptor (TJ0 k).2.2.1 = some (tyJ0 k) := by decide +kernel
abbrev cJ0_length_8abf5 : ByteArray := prog_17_method_54_code
def yJ0_length_8abf5 : MethodName := ⟨RJ0, "length", "()I"⟩
abbrev cJ0_charAt_5068e : ByteArray := prog_17_method_56_code
def yJ0_charAt_5068e : MethodName := ⟨RJ0, "charAt", "(I)C"⟩
abbrev cJ0_indexOf_0f7a4 : ByteArray := prog_17_method_79_code
def yJ0_indexOf_0f7a4 : MethodName := ⟨RJ0, "indexOf", "(I)I"⟩
abbrev cJ0_indexOf_7cf53 : ByteArray := prog_17_method_80_code
def yJ0_indexOf_7cf53 : MethodName := ⟨RJ0, "indexOf", "(II)I"⟩
abbrev cJ0_coder_7d493 : ByteArray := prog_17_method_152_code
def yJ0_coder_7d493 : MethodName := ⟨RJ0, "coder", "()B"⟩
abbrev cJ0_isLatin1_aae02 : ByteArray := prog_17_method_154_code
def yJ0_isLatin1_aae02 : MethodName := ⟨RJ0, "isLatin1", "()Z"⟩
abbrev cJ0_checkIndex_df160 : ByteArray := prog_17_method_155_code
def yJ0_checkIndex_df160 : MethodName := ⟨RJ0, "checkIndex", "(II)V"⟩
abbrev cJ0_checkBoundsBeginEnd_23922 : ByteArray := prog_17_method_158_code
def yJ0_checkBoundsBeginEnd_23922 : MethodName := ⟨RJ0, "checkBoundsBeginEnd", "(III)V"⟩
def RJ1 : String := "java/lang/StringLatin1"
def TJ1 : u_T := fun k => match k with
  | _ => ("", "", "", false)
def tyJ1 : Nat → FieldType := fun k => match k with
  | _ => .int
abbrev wsJ10 : List Cond := u_ws RJ1 TJ1 0
theorem nmJ1 : ∀ a, a < 0 → ∀ b, b < 0 → a ≠ b → (TJ1 a).2.1 ≠ (TJ1 b).2.1 := by decide +kernel
theorem tyJ1_ok : ∀ k, k < 0 → parseFieldDescriptor (TJ1 k).2.2.1 = some (tyJ1 k) := by decide +kernel
abbrev cJ1_charAt_3b067 : ByteArray := prog_18_method_2_code
def yJ1_charAt_3b067 : MethodName := ⟨RJ1, "charAt", "([BI)C"⟩
abbrev cJ1_canEncode_9a6ad : ByteArray := prog_18_method_4_code
def yJ1_canEncode_9a6ad : MethodName := ⟨RJ1, "canEncode", "(I)Z"⟩
abbrev cJ1_indexOf_4cfef : ByteArray := prog_18_method_22_code
def yJ1_indexOf_4cfef : MethodName := ⟨RJ1, "indexOf", "([BIII)I"⟩
abbrev cJ1_indexOfChar_4cfef : ByteArray := prog_18_method_23_code
def yJ1_indexOfChar_4cfef : MethodName := ⟨RJ1, "indexOfChar", "([BIII)I"⟩
def RJ2 : String := "java/lang/StringUTF16"
def TJ2 : u_T := fun k => match k with
  | _ => ("", "", "", false)
def tyJ2 : Nat → FieldType := fun k => match k with
  | _ => .int
abbrev wsJ20 : List Cond := u_ws RJ2 TJ2 0
theorem nmJ2 : ∀ a, a < 0 → ∀ b, b < 0 → a ≠ b → (TJ2 a).2.1 ≠ (TJ2 b).2.1 := by decide +kernel
theorem tyJ2_ok : ∀ k, k < 0 → parseFieldDescriptor (TJ2 k).2.2.1 = some (tyJ2 k) := by decide +kernel
abbrev cJ2_getChar_3b067 : ByteArray := prog_19_method_5_code
def yJ2_getChar_3b067 : MethodName := ⟨RJ2, "getChar", "([BI)C"⟩
abbrev cJ2_length_9d52b : ByteArray := prog_19_method_6_code
def yJ2_length_9d52b : MethodName := ⟨RJ2, "length", "([B)I"⟩
abbrev cJ2_indexOf_4cfef : ByteArray := prog_19_method_40_code
def yJ2_indexOf_4cfef : MethodName := ⟨RJ2, "indexOf", "([BIII)I"⟩
abbrev cJ2_indexOfChar_4cfef : ByteArray := prog_19_method_47_code
def yJ2_indexOfChar_4cfef : MethodName := ⟨RJ2, "indexOfChar", "([BIII)I"⟩
abbrev cJ2_indexOfCharUnsafe_4cfef : ByteArray := prog_19_method_48_code
def yJ2_indexOfCharUnsafe_4cfef : MethodName := ⟨RJ2, "indexOfCharUnsafe", "([BIII)I"⟩
abbrev cJ2_indexOfSupplementary_4cfef : ByteArray := prog_19_method_49_code
def yJ2_indexOfSupplementary_4cfef : MethodName := ⟨RJ2, "indexOfSupplementary", "([BIII)I"⟩
abbrev cJ2_charAt_3b067 : ByteArray := prog_19_method_83_code
def yJ2_charAt_3b067 : MethodName := ⟨RJ2, "charAt", "([BI)C"⟩
abbrev cJ2_checkIndex_2214a : ByteArray := prog_19_method_91_code
def yJ2_checkIndex_2214a : MethodName := ⟨RJ2, "checkIndex", "(I[B)V"⟩
abbrev cJ2_checkBoundsBeginEnd_d044e : ByteArray := prog_19_method_93_code
def yJ2_checkBoundsBeginEnd_d044e : MethodName := ⟨RJ2, "checkBoundsBeginEnd", "(II[B)V"⟩
def RJ10 : String := "java/lang/System"
def TJ10 : u_T := fun k => match k with
  | _ => ("", "", "", false)
def tyJ10 : Nat → FieldType := fun k => match k with
  | _ => .int
abbrev wsJ100 : List Cond := u_ws RJ10 TJ10 0
theorem nmJ10 : ∀ a, a < 0 → ∀ b, b < 0 → a ≠ b → (TJ10 a).2.1 ≠ (TJ10 b).2.1 := by decide +kernel
theorem tyJ10_ok : ∀ k, k < 0 → parseFieldDescriptor (TJ10 k).2.2.1 = some (tyJ10 k) := by decide +kernel
def RJxfd54e : String := "java/lang/constant/Constable"
def TJxfd54e : u_T := fun k => match k with
  | _ => ("", "", "", false)
def tyJxfd54e : Nat → FieldType := fun k => match k with
  | _ => .int
theorem nmJxfd54e : ∀ a, a < 0 → ∀ b, b < 0 → a ≠ b → (TJxfd54e a).2.1 ≠ (TJxfd54e b).2.1 := by decide +kernel
theorem tyJxfd54e_ok : ∀ k, k < 0 → parseFieldDescriptor (TJxfd54e k).2.2.1 = some (tyJxfd54e k) := by decide +kernel
def RJx3cf43 : String := "java/lang/constant/ConstantDesc"
def TJx3cf43 : u_T := fun k => match k with
  | _ => ("", "", "", false)
def tyJx3cf43 : Nat → FieldType := fun k => match k with
  | _ => .int
theorem nmJx3cf43 : ∀ a, a < 0 → ∀ b, b < 0 → a ≠ b → (TJx3cf43 a).2.1 ≠ (TJx3cf43 b).2.1 := by decide +kernel
theorem tyJx3cf43_ok : ∀ k, k < 0 → parseFieldDescriptor (TJx3cf43 k).2.2.1 = some (tyJx3cf43 k) := by decide +kernel
def RJ7 : String := "java/util/Arrays"
def TJ7 : u_T := fun k => match k with
  | _ => ("", "", "", false)
def tyJ7 : Nat → FieldType := fun k => match k with
  | _ => .int
abbrev wsJ70 : List Cond := u_ws RJ7 TJ7 0
theorem nmJ7 : ∀ a, a < 0 → ∀ b, b < 0 → a ≠ b → (TJ7 a).2.1 ≠ (TJ7 b).2.1 := by decide +kernel
theorem tyJ7_ok : ∀ k, k < 0 → parseFieldDescriptor (TJ7 k).2.2.1 = some (tyJ7 k) := by decide +kernel
abbrev cJ7_fill_53178 : ByteArray := prog_21_method_103_code
def yJ7_fill_53178 : MethodName := ⟨RJ7, "fill", "([II)V"⟩
abbrev cJ7_copyOf_59c91 : ByteArray := prog_21_method_123_code
def yJ7_copyOf_59c91 : MethodName := ⟨RJ7, "copyOf", "([II)[I"⟩
def RJ3 : String := "jdk/internal/util/Preconditions"
def TJ3 : u_T := fun k => match k with
  | _ => ("", "", "", false)
def tyJ3 : Nat → FieldType := fun k => match k with
  | _ => .int
abbrev wsJ30 : List Cond := u_ws RJ3 TJ3 0
theorem nmJ3 : ∀ a, a < 0 → ∀ b, b < 0 → a ≠ b → (TJ3 a).2.1 ≠ (TJ3 b).2.1 := by decide +kernel
theorem tyJ3_ok : ∀ k, k < 0 → parseFieldDescriptor (TJ3 k).2.2.1 = some (tyJ3 k) := by decide +kernel
abbrev cJ3_checkIndex_8e157 : ByteArray := prog_22_method_11_code
def yJ3_checkIndex_8e157 : MethodName := ⟨RJ3, "checkIndex", "(IILjava/util/function/BiFunction;)I"⟩
abbrev cJ3_checkFromToIndex_8c36e : ByteArray := prog_22_method_12_code
def yJ3_checkFromToIndex_8c36e : MethodName := ⟨RJ3, "checkFromToIndex", "(IIILjava/util/function/BiFunction;)I"⟩
def RL : String := "OldBottlesLaw"
abbrev cL_law : ByteArray := code
def yL_law : MethodName := ⟨RL, "law", "([I)Z"⟩
abbrev vwCl : List vw_C := [(RX0, TX0, 3), (RX1, TX1, 9), (RX2, TX2, 5), (RX3, TX3, 6), (RX4, TX4, 9), (RX5, TX5, 3), (RX6, TX6, 3), (RX7, TX7, 5), (RX8, TX8, 6), (RX9, TX9, 17), (RX10, TX10, 60)]
end
section
theorem dX0_init_0 : decode cX0_init 0 = .ok (.aload_n 0, 1) := by decide +kernel
theorem dX0_init_1 : decode cX0_init 1 = .ok (.invokespecial 3, 3) := by decide +kernel
theorem dX0_init_4 : decode cX0_init 4 = .ok (.aload_n 0, 1) := by decide +kernel
theorem dX0_init_5 : decode cX0_init 5 = .ok (.bipush 12, 2) := by decide +kernel
theorem dX0_init_7 : decode cX0_init 7 = .ok (.newarray .int, 2) := by decide +kernel
theorem dX0_init_9 : decode cX0_init 9 = .ok (.putfield 9, 3) := by decide +kernel
theorem dX0_init_12 : decode cX0_init 12 = .ok (.aload_n 0, 1) := by decide +kernel
theorem dX0_init_13 : decode cX0_init 13 = .ok (.bipush 12, 2) := by decide +kernel
theorem dX0_init_15 : decode cX0_init 15 = .ok (.newarray .int, 2) := by decide +kernel
theorem dX0_init_17 : decode cX0_init 17 = .ok (.putfield 15, 3) := by decide +kernel
theorem dX0_init_20 : decode cX0_init 20 = .ok (.aload_n 0, 1) := by decide +kernel
theorem dX0_init_21 : decode cX0_init 21 = .ok (.iconst 3, 1) := by decide +kernel
theorem dX0_init_22 : decode cX0_init 22 = .ok (.newarray .int, 2) := by decide +kernel
theorem dX0_init_24 : decode cX0_init 24 = .ok (.putfield 18, 3) := by decide +kernel
theorem dX0_init_27 : decode cX0_init 27 = .ok (.aload_n 0, 1) := by decide +kernel
theorem dX0_init_28 : decode cX0_init 28 = .ok (.getfield 15, 3) := by decide +kernel
theorem dX0_init_31 : decode cX0_init 31 = .ok (.bipush 99, 2) := by decide +kernel
theorem dX0_init_33 : decode cX0_init 33 = .ok (.invokestatic 21, 3) := by decide +kernel
theorem dX0_init_36 : decode cX0_init 36 = .ok (.aload_n 0, 1) := by decide +kernel
theorem dX0_init_37 : decode cX0_init 37 = .ok (.getfield 18, 3) := by decide +kernel
theorem dX0_init_40 : decode cX0_init 40 = .ok (.bipush 100, 2) := by decide +kernel
theorem dX0_init_42 : decode cX0_init 42 = .ok (.invokestatic 21, 3) := by decide +kernel
theorem dX0_init_45 : decode cX0_init 45 = .ok (.return_, 1) := by decide +kernel
theorem dX0_place_0 : decode cX0_place 0 = .ok (.iload_n 0, 1) := by decide +kernel
theorem dX0_place_1 : decode cX0_place 1 = .ok (.ifCond .lt 25, 3) := by decide +kernel
theorem dX0_place_4 : decode cX0_place 4 = .ok (.iload_n 0, 1) := by decide +kernel
theorem dX0_place_5 : decode cX0_place 5 = .ok (.iconst 3, 1) := by decide +kernel
theorem dX0_place_6 : decode cX0_place 6 = .ok (.if_icmp .ge 20, 3) := by decide +kernel
theorem dX0_place_9 : decode cX0_place 9 = .ok (.iload_n 1, 1) := by decide +kernel
theorem dX0_place_10 : decode cX0_place 10 = .ok (.ifCond .lt 16, 3) := by decide +kernel
theorem dX0_place_13 : decode cX0_place 13 = .ok (.iload_n 1, 1) := by decide +kernel
theorem dX0_place_14 : decode cX0_place 14 = .ok (.iconst 4, 1) := by decide +kernel
theorem dX0_place_15 : decode cX0_place 15 = .ok (.if_icmp .ge 11, 3) := by decide +kernel
theorem dX0_place_18 : decode cX0_place 18 = .ok (.iload_n 0, 1) := by decide +kernel
theorem dX0_place_19 : decode cX0_place 19 = .ok (.iconst 4, 1) := by decide +kernel
theorem dX0_place_20 : decode cX0_place 20 = .ok (.imul, 1) := by decide +kernel
theorem dX0_place_21 : decode cX0_place 21 = .ok (.iload_n 1, 1) := by decide +kernel
theorem dX0_place_22 : decode cX0_place 22 = .ok (.iadd, 1) := by decide +kernel
theorem dX0_place_23 : decode cX0_place 23 = .ok (.goto 4, 3) := by decide +kernel
theorem dX0_place_26 : decode cX0_place 26 = .ok (.iconst (-1), 1) := by decide +kernel
theorem dX0_place_27 : decode cX0_place 27 = .ok (.ireturn, 1) := by decide +kernel
theorem dX0_write_0 : decode cX0_write 0 = .ok (.iload_n 1, 1) := by decide +kernel
theorem dX0_write_1 : decode cX0_write 1 = .ok (.iload_n 2, 1) := by decide +kernel
theorem dX0_write_2 : decode cX0_write 2 = .ok (.invokestatic 27, 3) := by decide +kernel
theorem dX0_write_5 : decode cX0_write 5 = .ok (.istore 5, 2) := by decide +kernel
theorem dX0_write_7 : decode cX0_write 7 = .ok (.iload 5, 2) := by decide +kernel
theorem dX0_write_9 : decode cX0_write 9 = .ok (.iconst (-1), 1) := by decide +kernel
theorem dX0_write_10 : decode cX0_write 10 = .ok (.if_icmp .eq 20, 3) := by decide +kernel
theorem dX0_write_13 : decode cX0_write 13 = .ok (.aload_n 0, 1) := by decide +kernel
theorem dX0_write_14 : decode cX0_write 14 = .ok (.getfield 9, 3) := by decide +kernel
theorem dX0_write_17 : decode cX0_write 17 = .ok (.iload 5, 2) := by decide +kernel
theorem dX0_write_19 : decode cX0_write 19 = .ok (.iload_n 3, 1) := by decide +kernel
theorem dX0_write_20 : decode cX0_write 20 = .ok (.iastore, 1) := by decide +kernel
theorem dX0_write_21 : decode cX0_write 21 = .ok (.aload_n 0, 1) := by decide +kernel
theorem dX0_write_22 : decode cX0_write 22 = .ok (.getfield 15, 3) := by decide +kernel
theorem dX0_write_25 : decode cX0_write 25 = .ok (.iload 5, 2) := by decide +kernel
theorem dX0_write_27 : decode cX0_write 27 = .ok (.iload 4, 2) := by decide +kernel
theorem dX0_write_29 : decode cX0_write 29 = .ok (.iastore, 1) := by decide +kernel
theorem dX0_write_30 : decode cX0_write 30 = .ok (.return_, 1) := by decide +kernel
theorem dX0_bars_0 : decode cX0_bars 0 = .ok (.iload_n 2, 1) := by decide +kernel
theorem dX0_bars_1 : decode cX0_bars 1 = .ok (.aload_n 1, 1) := by decide +kernel
theorem dX0_bars_2 : decode cX0_bars 2 = .ok (.getfield 31, 3) := by decide +kernel
theorem dX0_bars_5 : decode cX0_bars 5 = .ok (.iload_n 2, 1) := by decide +kernel
theorem dX0_bars_6 : decode cX0_bars 6 = .ok (.invokestatic 37, 3) := by decide +kernel
theorem dX0_bars_9 : decode cX0_bars 9 = .ok (.invokestatic 27, 3) := by decide +kernel
theorem dX0_bars_12 : decode cX0_bars 12 = .ok (.istore_n 3, 1) := by decide +kernel
theorem dX0_bars_13 : decode cX0_bars 13 = .ok (.iload_n 3, 1) := by decide +kernel
theorem dX0_bars_14 : decode cX0_bars 14 = .ok (.iconst (-1), 1) := by decide +kernel
theorem dX0_bars_15 : decode cX0_bars 15 = .ok (.if_icmp .eq 35, 3) := by decide +kernel
theorem dX0_bars_18 : decode cX0_bars 18 = .ok (.aload_n 1, 1) := by decide +kernel
theorem dX0_bars_19 : decode cX0_bars 19 = .ok (.getfield 40, 3) := by decide +kernel
theorem dX0_bars_22 : decode cX0_bars 22 = .ok (.getfield 44, 3) := by decide +kernel
theorem dX0_bars_25 : decode cX0_bars 25 = .ok (.aload_n 0, 1) := by decide +kernel
theorem dX0_bars_26 : decode cX0_bars 26 = .ok (.getfield 9, 3) := by decide +kernel
theorem dX0_bars_29 : decode cX0_bars 29 = .ok (.iload_n 3, 1) := by decide +kernel
theorem dX0_bars_30 : decode cX0_bars 30 = .ok (.iaload, 1) := by decide +kernel
theorem dX0_bars_31 : decode cX0_bars 31 = .ok (.if_icmp .lt 19, 3) := by decide +kernel
theorem dX0_bars_34 : decode cX0_bars 34 = .ok (.aload_n 1, 1) := by decide +kernel
theorem dX0_bars_35 : decode cX0_bars 35 = .ok (.getfield 40, 3) := by decide +kernel
theorem dX0_bars_38 : decode cX0_bars 38 = .ok (.getfield 44, 3) := by decide +kernel
theorem dX0_bars_41 : decode cX0_bars 41 = .ok (.aload_n 0, 1) := by decide +kernel
theorem dX0_bars_42 : decode cX0_bars 42 = .ok (.getfield 15, 3) := by decide +kernel
theorem dX0_bars_45 : decode cX0_bars 45 = .ok (.iload_n 3, 1) := by decide +kernel
theorem dX0_bars_46 : decode cX0_bars 46 = .ok (.iaload, 1) := by decide +kernel
theorem dX0_bars_47 : decode cX0_bars 47 = .ok (.if_icmp .le 7, 3) := by decide +kernel
theorem dX0_bars_50 : decode cX0_bars 50 = .ok (.iconst 1, 1) := by decide +kernel
theorem dX0_bars_51 : decode cX0_bars 51 = .ok (.goto 4, 3) := by decide +kernel
theorem dX0_bars_54 : decode cX0_bars 54 = .ok (.iconst 0, 1) := by decide +kernel
theorem dX0_bars_55 : decode cX0_bars 55 = .ok (.ireturn, 1) := by decide +kernel
theorem dX0_become_0 : decode cX0_become 0 = .ok (.aload_n 1, 1) := by decide +kernel
theorem dX0_become_1 : decode cX0_become 1 = .ok (.getfield 9, 3) := by decide +kernel
theorem dX0_become_4 : decode cX0_become 4 = .ok (.iconst 0, 1) := by decide +kernel
theorem dX0_become_5 : decode cX0_become 5 = .ok (.aload_n 0, 1) := by decide +kernel
theorem dX0_become_6 : decode cX0_become 6 = .ok (.getfield 9, 3) := by decide +kernel
theorem dX0_become_9 : decode cX0_become 9 = .ok (.iconst 0, 1) := by decide +kernel
theorem dX0_become_10 : decode cX0_become 10 = .ok (.bipush 12, 2) := by decide +kernel
theorem dX0_become_12 : decode cX0_become 12 = .ok (.invokestatic 49, 3) := by decide +kernel
theorem dX0_become_15 : decode cX0_become 15 = .ok (.aload_n 1, 1) := by decide +kernel
theorem dX0_become_16 : decode cX0_become 16 = .ok (.getfield 15, 3) := by decide +kernel
theorem dX0_become_19 : decode cX0_become 19 = .ok (.iconst 0, 1) := by decide +kernel
theorem dX0_become_20 : decode cX0_become 20 = .ok (.aload_n 0, 1) := by decide +kernel
theorem dX0_become_21 : decode cX0_become 21 = .ok (.getfield 15, 3) := by decide +kernel
theorem dX0_become_24 : decode cX0_become 24 = .ok (.iconst 0, 1) := by decide +kernel
theorem dX0_become_25 : decode cX0_become 25 = .ok (.bipush 12, 2) := by decide +kernel
theorem dX0_become_27 : decode cX0_become 27 = .ok (.invokestatic 49, 3) := by decide +kernel
theorem dX0_become_30 : decode cX0_become 30 = .ok (.aload_n 1, 1) := by decide +kernel
theorem dX0_become_31 : decode cX0_become 31 = .ok (.getfield 18, 3) := by decide +kernel
theorem dX0_become_34 : decode cX0_become 34 = .ok (.iconst 0, 1) := by decide +kernel
theorem dX0_become_35 : decode cX0_become 35 = .ok (.aload_n 0, 1) := by decide +kernel
theorem dX0_become_36 : decode cX0_become 36 = .ok (.getfield 18, 3) := by decide +kernel
theorem dX0_become_39 : decode cX0_become 39 = .ok (.iconst 0, 1) := by decide +kernel
theorem dX0_become_40 : decode cX0_become 40 = .ok (.iconst 3, 1) := by decide +kernel
theorem dX0_become_41 : decode cX0_become 41 = .ok (.invokestatic 49, 3) := by decide +kernel
theorem dX0_become_44 : decode cX0_become 44 = .ok (.return_, 1) := by decide +kernel
theorem dX1_init_0 : decode cX1_init 0 = .ok (.aload_n 0, 1) := by decide +kernel
theorem dX1_init_1 : decode cX1_init 1 = .ok (.invokespecial 3, 3) := by decide +kernel
theorem dX1_init_4 : decode cX1_init 4 = .ok (.aload_n 0, 1) := by decide +kernel
theorem dX1_init_5 : decode cX1_init 5 = .ok (.iload_n 1, 1) := by decide +kernel
theorem dX1_init_6 : decode cX1_init 6 = .ok (.putfield 9, 3) := by decide +kernel
theorem dX1_init_9 : decode cX1_init 9 = .ok (.aload_n 0, 1) := by decide +kernel
theorem dX1_init_10 : decode cX1_init 10 = .ok (.aload_n 2, 1) := by decide +kernel
theorem dX1_init_11 : decode cX1_init 11 = .ok (.putfield 15, 3) := by decide +kernel
theorem dX1_init_14 : decode cX1_init 14 = .ok (.aload_n 0, 1) := by decide +kernel
theorem dX1_init_15 : decode cX1_init 15 = .ok (.aload_n 3, 1) := by decide +kernel
theorem dX1_init_16 : decode cX1_init 16 = .ok (.putfield 19, 3) := by decide +kernel
theorem dX1_init_19 : decode cX1_init 19 = .ok (.aload_n 0, 1) := by decide +kernel
theorem dX1_init_20 : decode cX1_init 20 = .ok (.iload_n 1, 1) := by decide +kernel
theorem dX1_init_21 : decode cX1_init 21 = .ok (.aload_n 2, 1) := by decide +kernel
theorem dX1_init_22 : decode cX1_init 22 = .ok (.getfield 22, 3) := by decide +kernel
theorem dX1_init_25 : decode cX1_init 25 = .ok (.iload 4, 2) := by decide +kernel
theorem dX1_init_27 : decode cX1_init 27 = .ok (.invokestatic 27, 3) := by decide +kernel
theorem dX1_init_30 : decode cX1_init 30 = .ok (.putfield 31, 3) := by decide +kernel
theorem dX1_init_33 : decode cX1_init 33 = .ok (.aload_n 0, 1) := by decide +kernel
theorem dX1_init_34 : decode cX1_init 34 = .ok (.iconst (-1), 1) := by decide +kernel
theorem dX1_init_35 : decode cX1_init 35 = .ok (.putfield 34, 3) := by decide +kernel
theorem dX1_init_38 : decode cX1_init 38 = .ok (.return_, 1) := by decide +kernel
theorem dX1_shownParts_0 : decode cX1_shownParts 0 = .ok (.iload_n 0, 1) := by decide +kernel
theorem dX1_shownParts_1 : decode cX1_shownParts 1 = .ok (.iconst 5, 1) := by decide +kernel
theorem dX1_shownParts_2 : decode cX1_shownParts 2 = .ok (.invokestatic 37, 3) := by decide +kernel
theorem dX1_shownParts_5 : decode cX1_shownParts 5 = .ok (.ifCond .eq 11, 3) := by decide +kernel
theorem dX1_shownParts_8 : decode cX1_shownParts 8 = .ok (.getstatic 41, 3) := by decide +kernel
theorem dX1_shownParts_11 : decode cX1_shownParts 11 = .ok (.iload_n 0, 1) := by decide +kernel
theorem dX1_shownParts_12 : decode cX1_shownParts 12 = .ok (.iaload, 1) := by decide +kernel
theorem dX1_shownParts_13 : decode cX1_shownParts 13 = .ok (.goto 4, 3) := by decide +kernel
theorem dX1_shownParts_16 : decode cX1_shownParts 16 = .ok (.iconst 0, 1) := by decide +kernel
theorem dX1_shownParts_17 : decode cX1_shownParts 17 = .ok (.istore_n 3, 1) := by decide +kernel
theorem dX1_shownParts_18 : decode cX1_shownParts 18 = .ok (.iconst 0, 1) := by decide +kernel
theorem dX1_shownParts_19 : decode cX1_shownParts 19 = .ok (.istore 4, 2) := by decide +kernel
theorem dX1_shownParts_21 : decode cX1_shownParts 21 = .ok (.iconst 0, 1) := by decide +kernel
theorem dX1_shownParts_22 : decode cX1_shownParts 22 = .ok (.istore 5, 2) := by decide +kernel
theorem dX1_shownParts_24 : decode cX1_shownParts 24 = .ok (.iload 5, 2) := by decide +kernel
theorem dX1_shownParts_26 : decode cX1_shownParts 26 = .ok (.iconst 3, 1) := by decide +kernel
theorem dX1_shownParts_27 : decode cX1_shownParts 27 = .ok (.if_icmp .ge 37, 3) := by decide +kernel
theorem dX1_shownParts_30 : decode cX1_shownParts 30 = .ok (.iload 4, 2) := by decide +kernel
theorem dX1_shownParts_32 : decode cX1_shownParts 32 = .ok (.bipush 10, 2) := by decide +kernel
theorem dX1_shownParts_34 : decode cX1_shownParts 34 = .ok (.imul, 1) := by decide +kernel
theorem dX1_shownParts_35 : decode cX1_shownParts 35 = .ok (.iload_n 3, 1) := by decide +kernel
theorem dX1_shownParts_36 : decode cX1_shownParts 36 = .ok (.iload 5, 2) := by decide +kernel
theorem dX1_shownParts_38 : decode cX1_shownParts 38 = .ok (.ishr, 1) := by decide +kernel
theorem dX1_shownParts_39 : decode cX1_shownParts 39 = .ok (.iconst 1, 1) := by decide +kernel
theorem dX1_shownParts_40 : decode cX1_shownParts 40 = .ok (.iand, 1) := by decide +kernel
theorem dX1_shownParts_41 : decode cX1_shownParts 41 = .ok (.iconst 1, 1) := by decide +kernel
theorem dX1_shownParts_42 : decode cX1_shownParts 42 = .ok (.if_icmp .ne 7, 3) := by decide +kernel
theorem dX1_shownParts_45 : decode cX1_shownParts 45 = .ok (.iload_n 1, 1) := by decide +kernel
theorem dX1_shownParts_46 : decode cX1_shownParts 46 = .ok (.goto 4, 3) := by decide +kernel
theorem dX1_shownParts_49 : decode cX1_shownParts 49 = .ok (.iload_n 2, 1) := by decide +kernel
theorem dX1_shownParts_50 : decode cX1_shownParts 50 = .ok (.iload 5, 2) := by decide +kernel
theorem dX1_shownParts_52 : decode cX1_shownParts 52 = .ok (.invokestatic 45, 3) := by decide +kernel
theorem dX1_shownParts_55 : decode cX1_shownParts 55 = .ok (.iadd, 1) := by decide +kernel
theorem dX1_shownParts_56 : decode cX1_shownParts 56 = .ok (.istore 4, 2) := by decide +kernel
theorem dX1_shownParts_58 : decode cX1_shownParts 58 = .ok (.iinc 5 1, 3) := by decide +kernel
theorem dX1_shownParts_61 : decode cX1_shownParts 61 = .ok (.goto (-37), 3) := by decide +kernel
theorem dX1_shownParts_64 : decode cX1_shownParts 64 = .ok (.iload 4, 2) := by decide +kernel
theorem dX1_shownParts_66 : decode cX1_shownParts 66 = .ok (.ireturn, 1) := by decide +kernel
theorem dX1_tasted_0 : decode cX1_tasted 0 = .ok (.aload_n 0, 1) := by decide +kernel
theorem dX1_tasted_1 : decode cX1_tasted 1 = .ok (.getfield 9, 3) := by decide +kernel
theorem dX1_tasted_4 : decode cX1_tasted 4 = .ok (.tableswitch 81 1 5 #[36, 81, 36, 45, 65], 36) := by decide +kernel
theorem dX1_tasted_40 : decode cX1_tasted 40 = .ok (.aload_n 0, 1) := by decide +kernel
theorem dX1_tasted_41 : decode cX1_tasted 41 = .ok (.getfield 15, 3) := by decide +kernel
theorem dX1_tasted_44 : decode cX1_tasted 44 = .ok (.iload_n 1, 1) := by decide +kernel
theorem dX1_tasted_45 : decode cX1_tasted 45 = .ok (.invokevirtual 49, 3) := by decide +kernel
theorem dX1_tasted_48 : decode cX1_tasted 48 = .ok (.ireturn, 1) := by decide +kernel
theorem dX1_tasted_49 : decode cX1_tasted 49 = .ok (.aload_n 0, 1) := by decide +kernel
theorem dX1_tasted_50 : decode cX1_tasted 50 = .ok (.getfield 19, 3) := by decide +kernel
theorem dX1_tasted_53 : decode cX1_tasted 53 = .ok (.iload_n 1, 1) := by decide +kernel
theorem dX1_tasted_54 : decode cX1_tasted 54 = .ok (.invokevirtual 49, 3) := by decide +kernel
theorem dX1_tasted_57 : decode cX1_tasted 57 = .ok (.aload_n 0, 1) := by decide +kernel
theorem dX1_tasted_58 : decode cX1_tasted 58 = .ok (.getfield 15, 3) := by decide +kernel
theorem dX1_tasted_61 : decode cX1_tasted 61 = .ok (.iload_n 1, 1) := by decide +kernel
theorem dX1_tasted_62 : decode cX1_tasted 62 = .ok (.invokevirtual 49, 3) := by decide +kernel
theorem dX1_tasted_65 : decode cX1_tasted 65 = .ok (.iadd, 1) := by decide +kernel
theorem dX1_tasted_66 : decode cX1_tasted 66 = .ok (.iconst 2, 1) := by decide +kernel
theorem dX1_tasted_67 : decode cX1_tasted 67 = .ok (.idiv, 1) := by decide +kernel
theorem dX1_tasted_68 : decode cX1_tasted 68 = .ok (.ireturn, 1) := by decide +kernel
theorem dX1_tasted_69 : decode cX1_tasted 69 = .ok (.iconst 0, 1) := by decide +kernel
theorem dX1_tasted_70 : decode cX1_tasted 70 = .ok (.aload_n 0, 1) := by decide +kernel
theorem dX1_tasted_71 : decode cX1_tasted 71 = .ok (.getfield 19, 3) := by decide +kernel
theorem dX1_tasted_74 : decode cX1_tasted 74 = .ok (.iload_n 1, 1) := by decide +kernel
theorem dX1_tasted_75 : decode cX1_tasted 75 = .ok (.invokevirtual 49, 3) := by decide +kernel
theorem dX1_tasted_78 : decode cX1_tasted 78 = .ok (.bipush 9, 2) := by decide +kernel
theorem dX1_tasted_80 : decode cX1_tasted 80 = .ok (.isub, 1) := by decide +kernel
theorem dX1_tasted_81 : decode cX1_tasted 81 = .ok (.invokestatic 53, 3) := by decide +kernel
theorem dX1_tasted_84 : decode cX1_tasted 84 = .ok (.ireturn, 1) := by decide +kernel
theorem dX1_tasted_85 : decode cX1_tasted 85 = .ok (.aload_n 0, 1) := by decide +kernel
theorem dX1_tasted_86 : decode cX1_tasted 86 = .ok (.getfield 19, 3) := by decide +kernel
theorem dX1_tasted_89 : decode cX1_tasted 89 = .ok (.iload_n 1, 1) := by decide +kernel
theorem dX1_tasted_90 : decode cX1_tasted 90 = .ok (.invokevirtual 49, 3) := by decide +kernel
theorem dX1_tasted_93 : decode cX1_tasted 93 = .ok (.ireturn, 1) := by decide +kernel
theorem dX1_within_0 : decode cX1_within 0 = .ok (.aload_n 0, 1) := by decide +kernel
theorem dX1_within_1 : decode cX1_within 1 = .ok (.getfield 9, 3) := by decide +kernel
theorem dX1_within_4 : decode cX1_within 4 = .ok (.iconst 1, 1) := by decide +kernel
theorem dX1_within_5 : decode cX1_within 5 = .ok (.invokestatic 58, 3) := by decide +kernel
theorem dX1_within_8 : decode cX1_within 8 = .ok (.ifCond .eq 10, 3) := by decide +kernel
theorem dX1_within_11 : decode cX1_within 11 = .ok (.aload_n 0, 1) := by decide +kernel
theorem dX1_within_12 : decode cX1_within 12 = .ok (.getfield 15, 3) := by decide +kernel
theorem dX1_within_15 : decode cX1_within 15 = .ok (.goto 7, 3) := by decide +kernel
theorem dX1_within_18 : decode cX1_within 18 = .ok (.aload_n 0, 1) := by decide +kernel
theorem dX1_within_19 : decode cX1_within 19 = .ok (.getfield 19, 3) := by decide +kernel
theorem dX1_within_22 : decode cX1_within 22 = .ok (.areturn, 1) := by decide +kernel
theorem dX1_passOn_0 : decode cX1_passOn 0 = .ok (.aload_n 0, 1) := by decide +kernel
theorem dX1_passOn_1 : decode cX1_passOn 1 = .ok (.getfield 61, 3) := by decide +kernel
theorem dX1_passOn_4 : decode cX1_passOn 4 = .ok (.ifCond .le 15, 3) := by decide +kernel
theorem dX1_passOn_7 : decode cX1_passOn 7 = .ok (.iload_n 1, 1) := by decide +kernel
theorem dX1_passOn_8 : decode cX1_passOn 8 = .ok (.aload_n 0, 1) := by decide +kernel
theorem dX1_passOn_9 : decode cX1_passOn 9 = .ok (.getfield 34, 3) := by decide +kernel
theorem dX1_passOn_12 : decode cX1_passOn 12 = .ok (.if_icmp .ne 7, 3) := by decide +kernel
theorem dX1_passOn_15 : decode cX1_passOn 15 = .ok (.iconst 1, 1) := by decide +kernel
theorem dX1_passOn_16 : decode cX1_passOn 16 = .ok (.goto 4, 3) := by decide +kernel
theorem dX1_passOn_19 : decode cX1_passOn 19 = .ok (.iconst 0, 1) := by decide +kernel
theorem dX1_passOn_20 : decode cX1_passOn 20 = .ok (.istore 4, 2) := by decide +kernel
theorem dX1_passOn_22 : decode cX1_passOn 22 = .ok (.aload_n 0, 1) := by decide +kernel
theorem dX1_passOn_23 : decode cX1_passOn 23 = .ok (.getfield 61, 3) := by decide +kernel
theorem dX1_passOn_26 : decode cX1_passOn 26 = .ok (.ifCond .le 18, 3) := by decide +kernel
theorem dX1_passOn_29 : decode cX1_passOn 29 = .ok (.iload 4, 2) := by decide +kernel
theorem dX1_passOn_31 : decode cX1_passOn 31 = .ok (.ifCond .ne 13, 3) := by decide +kernel
theorem dX1_passOn_34 : decode cX1_passOn 34 = .ok (.aload_n 0, 1) := by decide +kernel
theorem dX1_passOn_35 : decode cX1_passOn 35 = .ok (.dup, 1) := by decide +kernel
theorem dX1_passOn_36 : decode cX1_passOn 36 = .ok (.getfield 64, 3) := by decide +kernel
theorem dX1_passOn_39 : decode cX1_passOn 39 = .ok (.iconst 1, 1) := by decide +kernel
theorem dX1_passOn_40 : decode cX1_passOn 40 = .ok (.iadd, 1) := by decide +kernel
theorem dX1_passOn_41 : decode cX1_passOn 41 = .ok (.putfield 64, 3) := by decide +kernel
theorem dX1_passOn_44 : decode cX1_passOn 44 = .ok (.aload_n 0, 1) := by decide +kernel
theorem dX1_passOn_45 : decode cX1_passOn 45 = .ok (.iload 4, 2) := by decide +kernel
theorem dX1_passOn_47 : decode cX1_passOn 47 = .ok (.ifCond .eq 12, 3) := by decide +kernel
theorem dX1_passOn_50 : decode cX1_passOn 50 = .ok (.aload_n 0, 1) := by decide +kernel
theorem dX1_passOn_51 : decode cX1_passOn 51 = .ok (.getfield 67, 3) := by decide +kernel
theorem dX1_passOn_54 : decode cX1_passOn 54 = .ok (.iconst 1, 1) := by decide +kernel
theorem dX1_passOn_55 : decode cX1_passOn 55 = .ok (.iadd, 1) := by decide +kernel
theorem dX1_passOn_56 : decode cX1_passOn 56 = .ok (.goto 4, 3) := by decide +kernel
theorem dX1_passOn_59 : decode cX1_passOn 59 = .ok (.iconst 1, 1) := by decide +kernel
theorem dX1_passOn_60 : decode cX1_passOn 60 = .ok (.putfield 67, 3) := by decide +kernel
theorem dX1_passOn_63 : decode cX1_passOn 63 = .ok (.aload_n 0, 1) := by decide +kernel
theorem dX1_passOn_64 : decode cX1_passOn 64 = .ok (.dup, 1) := by decide +kernel
theorem dX1_passOn_65 : decode cX1_passOn 65 = .ok (.getfield 61, 3) := by decide +kernel
theorem dX1_passOn_68 : decode cX1_passOn 68 = .ok (.iconst 1, 1) := by decide +kernel
theorem dX1_passOn_69 : decode cX1_passOn 69 = .ok (.iadd, 1) := by decide +kernel
theorem dX1_passOn_70 : decode cX1_passOn 70 = .ok (.putfield 61, 3) := by decide +kernel
theorem dX1_passOn_73 : decode cX1_passOn 73 = .ok (.aload_n 0, 1) := by decide +kernel
theorem dX1_passOn_74 : decode cX1_passOn 74 = .ok (.iload_n 2, 1) := by decide +kernel
theorem dX1_passOn_75 : decode cX1_passOn 75 = .ok (.putfield 34, 3) := by decide +kernel
theorem dX1_passOn_78 : decode cX1_passOn 78 = .ok (.aload_n 0, 1) := by decide +kernel
theorem dX1_passOn_79 : decode cX1_passOn 79 = .ok (.iload_n 3, 1) := by decide +kernel
theorem dX1_passOn_80 : decode cX1_passOn 80 = .ok (.putfield 70, 3) := by decide +kernel
theorem dX1_passOn_83 : decode cX1_passOn 83 = .ok (.return_, 1) := by decide +kernel
theorem dX1_forgetSales_0 : decode cX1_forgetSales 0 = .ok (.aload_n 0, 1) := by decide +kernel
theorem dX1_forgetSales_1 : decode cX1_forgetSales 1 = .ok (.iconst 0, 1) := by decide +kernel
theorem dX1_forgetSales_2 : decode cX1_forgetSales 2 = .ok (.putfield 61, 3) := by decide +kernel
theorem dX1_forgetSales_5 : decode cX1_forgetSales 5 = .ok (.aload_n 0, 1) := by decide +kernel
theorem dX1_forgetSales_6 : decode cX1_forgetSales 6 = .ok (.iconst (-1), 1) := by decide +kernel
theorem dX1_forgetSales_7 : decode cX1_forgetSales 7 = .ok (.putfield 34, 3) := by decide +kernel
theorem dX1_forgetSales_10 : decode cX1_forgetSales 10 = .ok (.aload_n 0, 1) := by decide +kernel
theorem dX1_forgetSales_11 : decode cX1_forgetSales 11 = .ok (.iconst 0, 1) := by decide +kernel
theorem dX1_forgetSales_12 : decode cX1_forgetSales 12 = .ok (.putfield 64, 3) := by decide +kernel
theorem dX1_forgetSales_15 : decode cX1_forgetSales 15 = .ok (.aload_n 0, 1) := by decide +kernel
theorem dX1_forgetSales_16 : decode cX1_forgetSales 16 = .ok (.iconst 0, 1) := by decide +kernel
theorem dX1_forgetSales_17 : decode cX1_forgetSales 17 = .ok (.putfield 67, 3) := by decide +kernel
theorem dX1_forgetSales_20 : decode cX1_forgetSales 20 = .ok (.aload_n 0, 1) := by decide +kernel
theorem dX1_forgetSales_21 : decode cX1_forgetSales 21 = .ok (.iconst 0, 1) := by decide +kernel
theorem dX1_forgetSales_22 : decode cX1_forgetSales 22 = .ok (.putfield 70, 3) := by decide +kernel
theorem dX1_forgetSales_25 : decode cX1_forgetSales 25 = .ok (.return_, 1) := by decide +kernel
theorem dX2_init_0 : decode cX2_init 0 = .ok (.aload_n 0, 1) := by decide +kernel
theorem dX2_init_1 : decode cX2_init 1 = .ok (.invokespecial 3, 3) := by decide +kernel
theorem dX2_init_4 : decode cX2_init 4 = .ok (.aload_n 0, 1) := by decide +kernel
theorem dX2_init_5 : decode cX2_init 5 = .ok (.bipush 8, 2) := by decide +kernel
theorem dX2_init_7 : decode cX2_init 7 = .ok (.newarray .int, 2) := by decide +kernel
theorem dX2_init_9 : decode cX2_init 9 = .ok (.putfield 9, 3) := by decide +kernel
theorem dX2_init_12 : decode cX2_init 12 = .ok (.aload_n 0, 1) := by decide +kernel
theorem dX2_init_13 : decode cX2_init 13 = .ok (.new 15, 3) := by decide +kernel
theorem dX2_init_16 : decode cX2_init 16 = .ok (.dup, 1) := by decide +kernel
theorem dX2_init_17 : decode cX2_init 17 = .ok (.invokespecial 17, 3) := by decide +kernel
theorem dX2_init_20 : decode cX2_init 20 = .ok (.putfield 18, 3) := by decide +kernel
theorem dX2_init_23 : decode cX2_init 23 = .ok (.aload_n 0, 1) := by decide +kernel
theorem dX2_init_24 : decode cX2_init 24 = .ok (.iconst (-1), 1) := by decide +kernel
theorem dX2_init_25 : decode cX2_init 25 = .ok (.putfield 22, 3) := by decide +kernel
theorem dX2_init_28 : decode cX2_init 28 = .ok (.return_, 1) := by decide +kernel
theorem dX3_init_0 : decode cX3_init 0 = .ok (.aload_n 0, 1) := by decide +kernel
theorem dX3_init_1 : decode cX3_init 1 = .ok (.invokespecial 3, 3) := by decide +kernel
theorem dX3_init_4 : decode cX3_init 4 = .ok (.aload_n 0, 1) := by decide +kernel
theorem dX3_init_5 : decode cX3_init 5 = .ok (.bipush 40, 2) := by decide +kernel
theorem dX3_init_7 : decode cX3_init 7 = .ok (.newarray .int, 2) := by decide +kernel
theorem dX3_init_9 : decode cX3_init 9 = .ok (.putfield 9, 3) := by decide +kernel
theorem dX3_init_12 : decode cX3_init 12 = .ok (.aload_n 0, 1) := by decide +kernel
theorem dX3_init_13 : decode cX3_init 13 = .ok (.bipush 40, 2) := by decide +kernel
theorem dX3_init_15 : decode cX3_init 15 = .ok (.newarray .int, 2) := by decide +kernel
theorem dX3_init_17 : decode cX3_init 17 = .ok (.putfield 15, 3) := by decide +kernel
theorem dX3_init_20 : decode cX3_init 20 = .ok (.aload_n 0, 1) := by decide +kernel
theorem dX3_init_21 : decode cX3_init 21 = .ok (.bipush 40, 2) := by decide +kernel
theorem dX3_init_23 : decode cX3_init 23 = .ok (.newarray .int, 2) := by decide +kernel
theorem dX3_init_25 : decode cX3_init 25 = .ok (.putfield 18, 3) := by decide +kernel
theorem dX3_init_28 : decode cX3_init 28 = .ok (.aload_n 0, 1) := by decide +kernel
theorem dX3_init_29 : decode cX3_init 29 = .ok (.bipush 40, 2) := by decide +kernel
theorem dX3_init_31 : decode cX3_init 31 = .ok (.newarray .int, 2) := by decide +kernel
theorem dX3_init_33 : decode cX3_init 33 = .ok (.putfield 21, 3) := by decide +kernel
theorem dX3_init_36 : decode cX3_init 36 = .ok (.aload_n 0, 1) := by decide +kernel
theorem dX3_init_37 : decode cX3_init 37 = .ok (.bipush 40, 2) := by decide +kernel
theorem dX3_init_39 : decode cX3_init 39 = .ok (.newarray .int, 2) := by decide +kernel
theorem dX3_init_41 : decode cX3_init 41 = .ok (.putfield 24, 3) := by decide +kernel
theorem dX3_init_44 : decode cX3_init 44 = .ok (.return_, 1) := by decide +kernel
theorem dX3_write_0 : decode cX3_write 0 = .ok (.aload_n 0, 1) := by decide +kernel
theorem dX3_write_1 : decode cX3_write 1 = .ok (.getfield 27, 3) := by decide +kernel
theorem dX3_write_4 : decode cX3_write 4 = .ok (.bipush 40, 2) := by decide +kernel
theorem dX3_write_6 : decode cX3_write 6 = .ok (.if_icmp .lt 6, 3) := by decide +kernel
theorem dX3_write_9 : decode cX3_write 9 = .ok (.bipush (-4), 2) := by decide +kernel
theorem dX3_write_11 : decode cX3_write 11 = .ok (.ireturn, 1) := by decide +kernel
theorem dX3_write_12 : decode cX3_write 12 = .ok (.aload_n 0, 1) := by decide +kernel
theorem dX3_write_13 : decode cX3_write 13 = .ok (.getfield 9, 3) := by decide +kernel
theorem dX3_write_16 : decode cX3_write 16 = .ok (.aload_n 0, 1) := by decide +kernel
theorem dX3_write_17 : decode cX3_write 17 = .ok (.getfield 27, 3) := by decide +kernel
theorem dX3_write_20 : decode cX3_write 20 = .ok (.iload_n 1, 1) := by decide +kernel
theorem dX3_write_21 : decode cX3_write 21 = .ok (.iastore, 1) := by decide +kernel
theorem dX3_write_22 : decode cX3_write 22 = .ok (.aload_n 0, 1) := by decide +kernel
theorem dX3_write_23 : decode cX3_write 23 = .ok (.getfield 15, 3) := by decide +kernel
theorem dX3_write_26 : decode cX3_write 26 = .ok (.aload_n 0, 1) := by decide +kernel
theorem dX3_write_27 : decode cX3_write 27 = .ok (.getfield 27, 3) := by decide +kernel
theorem dX3_write_30 : decode cX3_write 30 = .ok (.iload_n 2, 1) := by decide +kernel
theorem dX3_write_31 : decode cX3_write 31 = .ok (.bipush 10, 2) := by decide +kernel
theorem dX3_write_33 : decode cX3_write 33 = .ok (.idiv, 1) := by decide +kernel
theorem dX3_write_34 : decode cX3_write 34 = .ok (.iastore, 1) := by decide +kernel
theorem dX3_write_35 : decode cX3_write 35 = .ok (.aload_n 0, 1) := by decide +kernel
theorem dX3_write_36 : decode cX3_write 36 = .ok (.getfield 18, 3) := by decide +kernel
theorem dX3_write_39 : decode cX3_write 39 = .ok (.aload_n 0, 1) := by decide +kernel
theorem dX3_write_40 : decode cX3_write 40 = .ok (.getfield 27, 3) := by decide +kernel
theorem dX3_write_43 : decode cX3_write 43 = .ok (.iload_n 2, 1) := by decide +kernel
theorem dX3_write_44 : decode cX3_write 44 = .ok (.bipush 10, 2) := by decide +kernel
theorem dX3_write_46 : decode cX3_write 46 = .ok (.irem, 1) := by decide +kernel
theorem dX3_write_47 : decode cX3_write 47 = .ok (.iastore, 1) := by decide +kernel
theorem dX3_write_48 : decode cX3_write 48 = .ok (.aload_n 0, 1) := by decide +kernel
theorem dX3_write_49 : decode cX3_write 49 = .ok (.getfield 21, 3) := by decide +kernel
theorem dX3_write_52 : decode cX3_write 52 = .ok (.aload_n 0, 1) := by decide +kernel
theorem dX3_write_53 : decode cX3_write 53 = .ok (.getfield 27, 3) := by decide +kernel
theorem dX3_write_56 : decode cX3_write 56 = .ok (.iload_n 3, 1) := by decide +kernel
theorem dX3_write_57 : decode cX3_write 57 = .ok (.iastore, 1) := by decide +kernel
theorem dX3_write_58 : decode cX3_write 58 = .ok (.aload_n 0, 1) := by decide +kernel
theorem dX3_write_59 : decode cX3_write 59 = .ok (.getfield 24, 3) := by decide +kernel
theorem dX3_write_62 : decode cX3_write 62 = .ok (.aload_n 0, 1) := by decide +kernel
theorem dX3_write_63 : decode cX3_write 63 = .ok (.getfield 27, 3) := by decide +kernel
theorem dX3_write_66 : decode cX3_write 66 = .ok (.iload 4, 2) := by decide +kernel
theorem dX3_write_68 : decode cX3_write 68 = .ok (.iastore, 1) := by decide +kernel
theorem dX3_write_69 : decode cX3_write 69 = .ok (.aload_n 0, 1) := by decide +kernel
theorem dX3_write_70 : decode cX3_write 70 = .ok (.dup, 1) := by decide +kernel
theorem dX3_write_71 : decode cX3_write 71 = .ok (.getfield 27, 3) := by decide +kernel
theorem dX3_write_74 : decode cX3_write 74 = .ok (.iconst 1, 1) := by decide +kernel
theorem dX3_write_75 : decode cX3_write 75 = .ok (.iadd, 1) := by decide +kernel
theorem dX3_write_76 : decode cX3_write 76 = .ok (.putfield 27, 3) := by decide +kernel
theorem dX3_write_79 : decode cX3_write 79 = .ok (.aload_n 0, 1) := by decide +kernel
theorem dX3_write_80 : decode cX3_write 80 = .ok (.getfield 27, 3) := by decide +kernel
theorem dX3_write_83 : decode cX3_write 83 = .ok (.iconst 1, 1) := by decide +kernel
theorem dX3_write_84 : decode cX3_write 84 = .ok (.isub, 1) := by decide +kernel
theorem dX3_write_85 : decode cX3_write 85 = .ok (.ireturn, 1) := by decide +kernel
theorem dX3_handsOf_0 : decode cX3_handsOf 0 = .ok (.iconst 0, 1) := by decide +kernel
theorem dX3_handsOf_1 : decode cX3_handsOf 1 = .ok (.istore_n 2, 1) := by decide +kernel
theorem dX3_handsOf_2 : decode cX3_handsOf 2 = .ok (.iconst 0, 1) := by decide +kernel
theorem dX3_handsOf_3 : decode cX3_handsOf 3 = .ok (.istore_n 3, 1) := by decide +kernel
theorem dX3_handsOf_4 : decode cX3_handsOf 4 = .ok (.iload_n 3, 1) := by decide +kernel
theorem dX3_handsOf_5 : decode cX3_handsOf 5 = .ok (.aload_n 0, 1) := by decide +kernel
theorem dX3_handsOf_6 : decode cX3_handsOf 6 = .ok (.getfield 27, 3) := by decide +kernel
theorem dX3_handsOf_9 : decode cX3_handsOf 9 = .ok (.if_icmp .ge 39, 3) := by decide +kernel
theorem dX3_handsOf_12 : decode cX3_handsOf 12 = .ok (.aload_n 0, 1) := by decide +kernel
theorem dX3_handsOf_13 : decode cX3_handsOf 13 = .ok (.getfield 9, 3) := by decide +kernel
theorem dX3_handsOf_16 : decode cX3_handsOf 16 = .ok (.iload_n 3, 1) := by decide +kernel
theorem dX3_handsOf_17 : decode cX3_handsOf 17 = .ok (.iaload, 1) := by decide +kernel
theorem dX3_handsOf_18 : decode cX3_handsOf 18 = .ok (.iload_n 1, 1) := by decide +kernel
theorem dX3_handsOf_19 : decode cX3_handsOf 19 = .ok (.if_icmp .ne 23, 3) := by decide +kernel
theorem dX3_handsOf_22 : decode cX3_handsOf 22 = .ok (.iload_n 2, 1) := by decide +kernel
theorem dX3_handsOf_23 : decode cX3_handsOf 23 = .ok (.iconst 1, 1) := by decide +kernel
theorem dX3_handsOf_24 : decode cX3_handsOf 24 = .ok (.aload_n 0, 1) := by decide +kernel
theorem dX3_handsOf_25 : decode cX3_handsOf 25 = .ok (.getfield 15, 3) := by decide +kernel
theorem dX3_handsOf_28 : decode cX3_handsOf 28 = .ok (.iload_n 3, 1) := by decide +kernel
theorem dX3_handsOf_29 : decode cX3_handsOf 29 = .ok (.iaload, 1) := by decide +kernel
theorem dX3_handsOf_30 : decode cX3_handsOf 30 = .ok (.ishl, 1) := by decide +kernel
theorem dX3_handsOf_31 : decode cX3_handsOf 31 = .ok (.iconst 1, 1) := by decide +kernel
theorem dX3_handsOf_32 : decode cX3_handsOf 32 = .ok (.aload_n 0, 1) := by decide +kernel
theorem dX3_handsOf_33 : decode cX3_handsOf 33 = .ok (.getfield 18, 3) := by decide +kernel
theorem dX3_handsOf_36 : decode cX3_handsOf 36 = .ok (.iload_n 3, 1) := by decide +kernel
theorem dX3_handsOf_37 : decode cX3_handsOf 37 = .ok (.iaload, 1) := by decide +kernel
theorem dX3_handsOf_38 : decode cX3_handsOf 38 = .ok (.ishl, 1) := by decide +kernel
theorem dX3_handsOf_39 : decode cX3_handsOf 39 = .ok (.ior, 1) := by decide +kernel
theorem dX3_handsOf_40 : decode cX3_handsOf 40 = .ok (.ior, 1) := by decide +kernel
theorem dX3_handsOf_41 : decode cX3_handsOf 41 = .ok (.istore_n 2, 1) := by decide +kernel
theorem dX3_handsOf_42 : decode cX3_handsOf 42 = .ok (.iinc 3 1, 3) := by decide +kernel
theorem dX3_handsOf_45 : decode cX3_handsOf 45 = .ok (.goto (-41), 3) := by decide +kernel
theorem dX3_handsOf_48 : decode cX3_handsOf 48 = .ok (.iload_n 2, 1) := by decide +kernel
theorem dX3_handsOf_49 : decode cX3_handsOf 49 = .ok (.ireturn, 1) := by decide +kernel
theorem dX3_bottlesOf_0 : decode cX3_bottlesOf 0 = .ok (.iconst 0, 1) := by decide +kernel
theorem dX3_bottlesOf_1 : decode cX3_bottlesOf 1 = .ok (.istore_n 2, 1) := by decide +kernel
theorem dX3_bottlesOf_2 : decode cX3_bottlesOf 2 = .ok (.iconst 0, 1) := by decide +kernel
theorem dX3_bottlesOf_3 : decode cX3_bottlesOf 3 = .ok (.istore_n 3, 1) := by decide +kernel
theorem dX3_bottlesOf_4 : decode cX3_bottlesOf 4 = .ok (.iload_n 3, 1) := by decide +kernel
theorem dX3_bottlesOf_5 : decode cX3_bottlesOf 5 = .ok (.aload_n 0, 1) := by decide +kernel
theorem dX3_bottlesOf_6 : decode cX3_bottlesOf 6 = .ok (.getfield 27, 3) := by decide +kernel
theorem dX3_bottlesOf_9 : decode cX3_bottlesOf 9 = .ok (.if_icmp .ge 42, 3) := by decide +kernel
theorem dX3_bottlesOf_12 : decode cX3_bottlesOf 12 = .ok (.iload_n 1, 1) := by decide +kernel
theorem dX3_bottlesOf_13 : decode cX3_bottlesOf 13 = .ok (.iconst 1, 1) := by decide +kernel
theorem dX3_bottlesOf_14 : decode cX3_bottlesOf 14 = .ok (.aload_n 0, 1) := by decide +kernel
theorem dX3_bottlesOf_15 : decode cX3_bottlesOf 15 = .ok (.getfield 15, 3) := by decide +kernel
theorem dX3_bottlesOf_18 : decode cX3_bottlesOf 18 = .ok (.iload_n 3, 1) := by decide +kernel
theorem dX3_bottlesOf_19 : decode cX3_bottlesOf 19 = .ok (.iaload, 1) := by decide +kernel
theorem dX3_bottlesOf_20 : decode cX3_bottlesOf 20 = .ok (.ishl, 1) := by decide +kernel
theorem dX3_bottlesOf_21 : decode cX3_bottlesOf 21 = .ok (.iconst 1, 1) := by decide +kernel
theorem dX3_bottlesOf_22 : decode cX3_bottlesOf 22 = .ok (.aload_n 0, 1) := by decide +kernel
theorem dX3_bottlesOf_23 : decode cX3_bottlesOf 23 = .ok (.getfield 18, 3) := by decide +kernel
theorem dX3_bottlesOf_26 : decode cX3_bottlesOf 26 = .ok (.iload_n 3, 1) := by decide +kernel
theorem dX3_bottlesOf_27 : decode cX3_bottlesOf 27 = .ok (.iaload, 1) := by decide +kernel
theorem dX3_bottlesOf_28 : decode cX3_bottlesOf 28 = .ok (.ishl, 1) := by decide +kernel
theorem dX3_bottlesOf_29 : decode cX3_bottlesOf 29 = .ok (.ior, 1) := by decide +kernel
theorem dX3_bottlesOf_30 : decode cX3_bottlesOf 30 = .ok (.iand, 1) := by decide +kernel
theorem dX3_bottlesOf_31 : decode cX3_bottlesOf 31 = .ok (.ifCond .eq 14, 3) := by decide +kernel
theorem dX3_bottlesOf_34 : decode cX3_bottlesOf 34 = .ok (.iload_n 2, 1) := by decide +kernel
theorem dX3_bottlesOf_35 : decode cX3_bottlesOf 35 = .ok (.iconst 1, 1) := by decide +kernel
theorem dX3_bottlesOf_36 : decode cX3_bottlesOf 36 = .ok (.aload_n 0, 1) := by decide +kernel
theorem dX3_bottlesOf_37 : decode cX3_bottlesOf 37 = .ok (.getfield 9, 3) := by decide +kernel
theorem dX3_bottlesOf_40 : decode cX3_bottlesOf 40 = .ok (.iload_n 3, 1) := by decide +kernel
theorem dX3_bottlesOf_41 : decode cX3_bottlesOf 41 = .ok (.iaload, 1) := by decide +kernel
theorem dX3_bottlesOf_42 : decode cX3_bottlesOf 42 = .ok (.ishl, 1) := by decide +kernel
theorem dX3_bottlesOf_43 : decode cX3_bottlesOf 43 = .ok (.ior, 1) := by decide +kernel
theorem dX3_bottlesOf_44 : decode cX3_bottlesOf 44 = .ok (.istore_n 2, 1) := by decide +kernel
theorem dX3_bottlesOf_45 : decode cX3_bottlesOf 45 = .ok (.iinc 3 1, 3) := by decide +kernel
theorem dX3_bottlesOf_48 : decode cX3_bottlesOf 48 = .ok (.goto (-44), 3) := by decide +kernel
theorem dX3_bottlesOf_51 : decode cX3_bottlesOf 51 = .ok (.iload_n 2, 1) := by decide +kernel
theorem dX3_bottlesOf_52 : decode cX3_bottlesOf 52 = .ok (.ireturn, 1) := by decide +kernel
theorem dX4_init_0 : decode cX4_init 0 = .ok (.aload_n 0, 1) := by decide +kernel
theorem dX4_init_1 : decode cX4_init 1 = .ok (.invokespecial 3, 3) := by decide +kernel
theorem dX4_init_4 : decode cX4_init 4 = .ok (.aload_n 0, 1) := by decide +kernel
theorem dX4_init_5 : decode cX4_init 5 = .ok (.sipush 160, 3) := by decide +kernel
theorem dX4_init_8 : decode cX4_init 8 = .ok (.newarray .byte, 2) := by decide +kernel
theorem dX4_init_10 : decode cX4_init 10 = .ok (.putfield 9, 3) := by decide +kernel
theorem dX4_init_13 : decode cX4_init 13 = .ok (.aload_n 0, 1) := by decide +kernel
theorem dX4_init_14 : decode cX4_init 14 = .ok (.sipush 160, 3) := by decide +kernel
theorem dX4_init_17 : decode cX4_init 17 = .ok (.newarray .int, 2) := by decide +kernel
theorem dX4_init_19 : decode cX4_init 19 = .ok (.putfield 15, 3) := by decide +kernel
theorem dX4_init_22 : decode cX4_init 22 = .ok (.aload_n 0, 1) := by decide +kernel
theorem dX4_init_23 : decode cX4_init 23 = .ok (.iconst (-1), 1) := by decide +kernel
theorem dX4_init_24 : decode cX4_init 24 = .ok (.putfield 19, 3) := by decide +kernel
theorem dX4_init_27 : decode cX4_init 27 = .ok (.return_, 1) := by decide +kernel
theorem dX4_put_0 : decode cX4_put 0 = .ok (.aload_n 0, 1) := by decide +kernel
theorem dX4_put_1 : decode cX4_put 1 = .ok (.getfield 23, 3) := by decide +kernel
theorem dX4_put_4 : decode cX4_put 4 = .ok (.sipush 160, 3) := by decide +kernel
theorem dX4_put_7 : decode cX4_put 7 = .ok (.if_icmp .ge 24, 3) := by decide +kernel
theorem dX4_put_10 : decode cX4_put 10 = .ok (.aload_n 0, 1) := by decide +kernel
theorem dX4_put_11 : decode cX4_put 11 = .ok (.getfield 9, 3) := by decide +kernel
theorem dX4_put_14 : decode cX4_put 14 = .ok (.aload_n 0, 1) := by decide +kernel
theorem dX4_put_15 : decode cX4_put 15 = .ok (.getfield 23, 3) := by decide +kernel
theorem dX4_put_18 : decode cX4_put 18 = .ok (.iload_n 1, 1) := by decide +kernel
theorem dX4_put_19 : decode cX4_put 19 = .ok (.i2b, 1) := by decide +kernel
theorem dX4_put_20 : decode cX4_put 20 = .ok (.bastore, 1) := by decide +kernel
theorem dX4_put_21 : decode cX4_put 21 = .ok (.aload_n 0, 1) := by decide +kernel
theorem dX4_put_22 : decode cX4_put 22 = .ok (.dup, 1) := by decide +kernel
theorem dX4_put_23 : decode cX4_put 23 = .ok (.getfield 23, 3) := by decide +kernel
theorem dX4_put_26 : decode cX4_put 26 = .ok (.iconst 1, 1) := by decide +kernel
theorem dX4_put_27 : decode cX4_put 27 = .ok (.iadd, 1) := by decide +kernel
theorem dX4_put_28 : decode cX4_put 28 = .ok (.putfield 23, 3) := by decide +kernel
theorem dX4_put_31 : decode cX4_put 31 = .ok (.return_, 1) := by decide +kernel
theorem dX4_read_0 : decode cX4_read 0 = .ok (.aload_n 0, 1) := by decide +kernel
theorem dX4_read_1 : decode cX4_read 1 = .ok (.iconst 0, 1) := by decide +kernel
theorem dX4_read_2 : decode cX4_read 2 = .ok (.putfield 26, 3) := by decide +kernel
theorem dX4_read_5 : decode cX4_read 5 = .ok (.aload_n 0, 1) := by decide +kernel
theorem dX4_read_6 : decode cX4_read 6 = .ok (.iconst 0, 1) := by decide +kernel
theorem dX4_read_7 : decode cX4_read 7 = .ok (.putfield 29, 3) := by decide +kernel
theorem dX4_read_10 : decode cX4_read 10 = .ok (.aload_n 0, 1) := by decide +kernel
theorem dX4_read_11 : decode cX4_read 11 = .ok (.iconst (-1), 1) := by decide +kernel
theorem dX4_read_12 : decode cX4_read 12 = .ok (.putfield 19, 3) := by decide +kernel
theorem dX4_read_15 : decode cX4_read 15 = .ok (.aload_n 0, 1) := by decide +kernel
theorem dX4_read_16 : decode cX4_read 16 = .ok (.invokevirtual 32, 3) := by decide +kernel
theorem dX4_read_19 : decode cX4_read 19 = .ok (.aload_n 0, 1) := by decide +kernel
theorem dX4_read_20 : decode cX4_read 20 = .ok (.bipush 6, 2) := by decide +kernel
theorem dX4_read_22 : decode cX4_read 22 = .ok (.invokevirtual 35, 3) := by decide +kernel
theorem dX4_read_25 : decode cX4_read 25 = .ok (.aload_n 0, 1) := by decide +kernel
theorem dX4_read_26 : decode cX4_read 26 = .ok (.getfield 29, 3) := by decide +kernel
theorem dX4_read_29 : decode cX4_read 29 = .ok (.istore_n 1, 1) := by decide +kernel
theorem dX4_read_30 : decode cX4_read 30 = .ok (.aload_n 0, 1) := by decide +kernel
theorem dX4_read_31 : decode cX4_read 31 = .ok (.bipush 7, 2) := by decide +kernel
theorem dX4_read_33 : decode cX4_read 33 = .ok (.invokevirtual 35, 3) := by decide +kernel
theorem dX4_read_36 : decode cX4_read 36 = .ok (.aload_n 0, 1) := by decide +kernel
theorem dX4_read_37 : decode cX4_read 37 = .ok (.getfield 29, 3) := by decide +kernel
theorem dX4_read_40 : decode cX4_read 40 = .ok (.istore_n 2, 1) := by decide +kernel
theorem dX4_read_41 : decode cX4_read 41 = .ok (.aload_n 0, 1) := by decide +kernel
theorem dX4_read_42 : decode cX4_read 42 = .ok (.bipush 8, 2) := by decide +kernel
theorem dX4_read_44 : decode cX4_read 44 = .ok (.invokevirtual 35, 3) := by decide +kernel
theorem dX4_read_47 : decode cX4_read 47 = .ok (.aload_n 0, 1) := by decide +kernel
theorem dX4_read_48 : decode cX4_read 48 = .ok (.bipush 13, 2) := by decide +kernel
theorem dX4_read_50 : decode cX4_read 50 = .ok (.invokevirtual 39, 3) := by decide +kernel
theorem dX4_read_53 : decode cX4_read 53 = .ok (.aload_n 0, 1) := by decide +kernel
theorem dX4_read_54 : decode cX4_read 54 = .ok (.iconst 0, 1) := by decide +kernel
theorem dX4_read_55 : decode cX4_read 55 = .ok (.putfield 23, 3) := by decide +kernel
theorem dX4_read_58 : decode cX4_read 58 = .ok (.aload_n 0, 1) := by decide +kernel
theorem dX4_read_59 : decode cX4_read 59 = .ok (.getfield 19, 3) := by decide +kernel
theorem dX4_read_62 : decode cX4_read 62 = .ok (.iconst (-1), 1) := by decide +kernel
theorem dX4_read_63 : decode cX4_read 63 = .ok (.if_icmp .ne 26, 3) := by decide +kernel
theorem dX4_read_66 : decode cX4_read 66 = .ok (.new 42, 3) := by decide +kernel
theorem dX4_read_69 : decode cX4_read 69 = .ok (.dup, 1) := by decide +kernel
theorem dX4_read_70 : decode cX4_read 70 = .ok (.aload_n 0, 1) := by decide +kernel
theorem dX4_read_71 : decode cX4_read 71 = .ok (.getfield 15, 3) := by decide +kernel
theorem dX4_read_74 : decode cX4_read 74 = .ok (.aload_n 0, 1) := by decide +kernel
theorem dX4_read_75 : decode cX4_read 75 = .ok (.getfield 29, 3) := by decide +kernel
theorem dX4_read_78 : decode cX4_read 78 = .ok (.invokestatic 44, 3) := by decide +kernel
theorem dX4_read_81 : decode cX4_read 81 = .ok (.iload_n 1, 1) := by decide +kernel
theorem dX4_read_82 : decode cX4_read 82 = .ok (.iload_n 2, 1) := by decide +kernel
theorem dX4_read_83 : decode cX4_read 83 = .ok (.invokespecial 50, 3) := by decide +kernel
theorem dX4_read_86 : decode cX4_read 86 = .ok (.goto 4, 3) := by decide +kernel
theorem dX4_read_89 : decode cX4_read 89 = .ok (.aconst_null, 1) := by decide +kernel
theorem dX4_read_90 : decode cX4_read 90 = .ok (.areturn, 1) := by decide +kernel
theorem dX4_readClause_0 : decode cX4_readClause 0 = .ok (.aload_n 0, 1) := by decide +kernel
theorem dX4_readClause_1 : decode cX4_readClause 1 = .ok (.iload_n 1, 1) := by decide +kernel
theorem dX4_readClause_2 : decode cX4_readClause 2 = .ok (.invokevirtual 39, 3) := by decide +kernel
theorem dX4_readClause_5 : decode cX4_readClause 5 = .ok (.aload_n 0, 1) := by decide +kernel
theorem dX4_readClause_6 : decode cX4_readClause 6 = .ok (.iconst 0, 1) := by decide +kernel
theorem dX4_readClause_7 : decode cX4_readClause 7 = .ok (.invokevirtual 53, 3) := by decide +kernel
theorem dX4_readClause_10 : decode cX4_readClause 10 = .ok (.aload_n 0, 1) := by decide +kernel
theorem dX4_readClause_11 : decode cX4_readClause 11 = .ok (.bipush 59, 2) := by decide +kernel
theorem dX4_readClause_13 : decode cX4_readClause 13 = .ok (.invokevirtual 39, 3) := by decide +kernel
theorem dX4_readClause_16 : decode cX4_readClause 16 = .ok (.return_, 1) := by decide +kernel
theorem dX4_readOr_0 : decode cX4_readOr 0 = .ok (.aload_n 0, 1) := by decide +kernel
theorem dX4_readOr_1 : decode cX4_readOr 1 = .ok (.iload_n 1, 1) := by decide +kernel
theorem dX4_readOr_2 : decode cX4_readOr 2 = .ok (.invokevirtual 56, 3) := by decide +kernel
theorem dX4_readOr_5 : decode cX4_readOr 5 = .ok (.iconst 0, 1) := by decide +kernel
theorem dX4_readOr_6 : decode cX4_readOr 6 = .ok (.istore_n 2, 1) := by decide +kernel
theorem dX4_readOr_7 : decode cX4_readOr 7 = .ok (.iload_n 2, 1) := by decide +kernel
theorem dX4_readOr_8 : decode cX4_readOr 8 = .ok (.sipush 160, 3) := by decide +kernel
theorem dX4_readOr_11 : decode cX4_readOr 11 = .ok (.if_icmp .ge 33, 3) := by decide +kernel
theorem dX4_readOr_14 : decode cX4_readOr 14 = .ok (.aload_n 0, 1) := by decide +kernel
theorem dX4_readOr_15 : decode cX4_readOr 15 = .ok (.getfield 59, 3) := by decide +kernel
theorem dX4_readOr_18 : decode cX4_readOr 18 = .ok (.bipush 9, 2) := by decide +kernel
theorem dX4_readOr_20 : decode cX4_readOr 20 = .ok (.if_icmp .ne 24, 3) := by decide +kernel
theorem dX4_readOr_23 : decode cX4_readOr 23 = .ok (.aload_n 0, 1) := by decide +kernel
theorem dX4_readOr_24 : decode cX4_readOr 24 = .ok (.invokevirtual 32, 3) := by decide +kernel
theorem dX4_readOr_27 : decode cX4_readOr 27 = .ok (.aload_n 0, 1) := by decide +kernel
theorem dX4_readOr_28 : decode cX4_readOr 28 = .ok (.iload_n 1, 1) := by decide +kernel
theorem dX4_readOr_29 : decode cX4_readOr 29 = .ok (.invokevirtual 56, 3) := by decide +kernel
theorem dX4_readOr_32 : decode cX4_readOr 32 = .ok (.aload_n 0, 1) := by decide +kernel
theorem dX4_readOr_33 : decode cX4_readOr 33 = .ok (.bipush (-9), 2) := by decide +kernel
theorem dX4_readOr_35 : decode cX4_readOr 35 = .ok (.invokevirtual 62, 3) := by decide +kernel
theorem dX4_readOr_38 : decode cX4_readOr 38 = .ok (.iinc 2 1, 3) := by decide +kernel
theorem dX4_readOr_41 : decode cX4_readOr 41 = .ok (.goto (-34), 3) := by decide +kernel
theorem dX4_readOr_44 : decode cX4_readOr 44 = .ok (.return_, 1) := by decide +kernel
theorem dX4_readAnd_0 : decode cX4_readAnd 0 = .ok (.aload_n 0, 1) := by decide +kernel
theorem dX4_readAnd_1 : decode cX4_readAnd 1 = .ok (.iload_n 1, 1) := by decide +kernel
theorem dX4_readAnd_2 : decode cX4_readAnd 2 = .ok (.invokevirtual 65, 3) := by decide +kernel
theorem dX4_readAnd_5 : decode cX4_readAnd 5 = .ok (.iconst 0, 1) := by decide +kernel
theorem dX4_readAnd_6 : decode cX4_readAnd 6 = .ok (.istore_n 2, 1) := by decide +kernel
theorem dX4_readAnd_7 : decode cX4_readAnd 7 = .ok (.iload_n 2, 1) := by decide +kernel
theorem dX4_readAnd_8 : decode cX4_readAnd 8 = .ok (.sipush 160, 3) := by decide +kernel
theorem dX4_readAnd_11 : decode cX4_readAnd 11 = .ok (.if_icmp .ge 33, 3) := by decide +kernel
theorem dX4_readAnd_14 : decode cX4_readAnd 14 = .ok (.aload_n 0, 1) := by decide +kernel
theorem dX4_readAnd_15 : decode cX4_readAnd 15 = .ok (.getfield 59, 3) := by decide +kernel
theorem dX4_readAnd_18 : decode cX4_readAnd 18 = .ok (.bipush 10, 2) := by decide +kernel
theorem dX4_readAnd_20 : decode cX4_readAnd 20 = .ok (.if_icmp .ne 24, 3) := by decide +kernel
theorem dX4_readAnd_23 : decode cX4_readAnd 23 = .ok (.aload_n 0, 1) := by decide +kernel
theorem dX4_readAnd_24 : decode cX4_readAnd 24 = .ok (.invokevirtual 32, 3) := by decide +kernel
theorem dX4_readAnd_27 : decode cX4_readAnd 27 = .ok (.aload_n 0, 1) := by decide +kernel
theorem dX4_readAnd_28 : decode cX4_readAnd 28 = .ok (.iload_n 1, 1) := by decide +kernel
theorem dX4_readAnd_29 : decode cX4_readAnd 29 = .ok (.invokevirtual 65, 3) := by decide +kernel
theorem dX4_readAnd_32 : decode cX4_readAnd 32 = .ok (.aload_n 0, 1) := by decide +kernel
theorem dX4_readAnd_33 : decode cX4_readAnd 33 = .ok (.bipush (-10), 2) := by decide +kernel
theorem dX4_readAnd_35 : decode cX4_readAnd 35 = .ok (.invokevirtual 62, 3) := by decide +kernel
theorem dX4_readAnd_38 : decode cX4_readAnd 38 = .ok (.iinc 2 1, 3) := by decide +kernel
theorem dX4_readAnd_41 : decode cX4_readAnd 41 = .ok (.goto (-34), 3) := by decide +kernel
theorem dX4_readAnd_44 : decode cX4_readAnd 44 = .ok (.return_, 1) := by decide +kernel
theorem dX4_readNot_0 : decode cX4_readNot 0 = .ok (.aload_n 0, 1) := by decide +kernel
theorem dX4_readNot_1 : decode cX4_readNot 1 = .ok (.getfield 59, 3) := by decide +kernel
theorem dX4_readNot_4 : decode cX4_readNot 4 = .ok (.bipush 11, 2) := by decide +kernel
theorem dX4_readNot_6 : decode cX4_readNot 6 = .ok (.if_icmp .eq 11, 3) := by decide +kernel
theorem dX4_readNot_9 : decode cX4_readNot 9 = .ok (.aload_n 0, 1) := by decide +kernel
theorem dX4_readNot_10 : decode cX4_readNot 10 = .ok (.iload_n 1, 1) := by decide +kernel
theorem dX4_readNot_11 : decode cX4_readNot 11 = .ok (.invokevirtual 68, 3) := by decide +kernel
theorem dX4_readNot_14 : decode cX4_readNot 14 = .ok (.goto 32, 3) := by decide +kernel
theorem dX4_readNot_17 : decode cX4_readNot 17 = .ok (.iload_n 1, 1) := by decide +kernel
theorem dX4_readNot_18 : decode cX4_readNot 18 = .ok (.iconst 5, 1) := by decide +kernel
theorem dX4_readNot_19 : decode cX4_readNot 19 = .ok (.if_icmp .ge 23, 3) := by decide +kernel
theorem dX4_readNot_22 : decode cX4_readNot 22 = .ok (.aload_n 0, 1) := by decide +kernel
theorem dX4_readNot_23 : decode cX4_readNot 23 = .ok (.invokevirtual 32, 3) := by decide +kernel
theorem dX4_readNot_26 : decode cX4_readNot 26 = .ok (.aload_n 0, 1) := by decide +kernel
theorem dX4_readNot_27 : decode cX4_readNot 27 = .ok (.iload_n 1, 1) := by decide +kernel
theorem dX4_readNot_28 : decode cX4_readNot 28 = .ok (.iconst 1, 1) := by decide +kernel
theorem dX4_readNot_29 : decode cX4_readNot 29 = .ok (.iadd, 1) := by decide +kernel
theorem dX4_readNot_30 : decode cX4_readNot 30 = .ok (.invokevirtual 65, 3) := by decide +kernel
theorem dX4_readNot_33 : decode cX4_readNot 33 = .ok (.aload_n 0, 1) := by decide +kernel
theorem dX4_readNot_34 : decode cX4_readNot 34 = .ok (.bipush (-11), 2) := by decide +kernel
theorem dX4_readNot_36 : decode cX4_readNot 36 = .ok (.invokevirtual 62, 3) := by decide +kernel
theorem dX4_readNot_39 : decode cX4_readNot 39 = .ok (.goto 7, 3) := by decide +kernel
theorem dX4_readNot_42 : decode cX4_readNot 42 = .ok (.aload_n 0, 1) := by decide +kernel
theorem dX4_readNot_43 : decode cX4_readNot 43 = .ok (.invokevirtual 71, 3) := by decide +kernel
theorem dX4_readNot_46 : decode cX4_readNot 46 = .ok (.return_, 1) := by decide +kernel
theorem dX4_readCompared_0 : decode cX4_readCompared 0 = .ok (.aload_n 0, 1) := by decide +kernel
theorem dX4_readCompared_1 : decode cX4_readCompared 1 = .ok (.iload_n 1, 1) := by decide +kernel
theorem dX4_readCompared_2 : decode cX4_readCompared 2 = .ok (.invokevirtual 74, 3) := by decide +kernel
theorem dX4_readCompared_5 : decode cX4_readCompared 5 = .ok (.aload_n 0, 1) := by decide +kernel
theorem dX4_readCompared_6 : decode cX4_readCompared 6 = .ok (.getfield 59, 3) := by decide +kernel
theorem dX4_readCompared_9 : decode cX4_readCompared 9 = .ok (.bipush 60, 2) := by decide +kernel
theorem dX4_readCompared_11 : decode cX4_readCompared 11 = .ok (.if_icmp .eq 12, 3) := by decide +kernel
theorem dX4_readCompared_14 : decode cX4_readCompared 14 = .ok (.aload_n 0, 1) := by decide +kernel
theorem dX4_readCompared_15 : decode cX4_readCompared 15 = .ok (.getfield 59, 3) := by decide +kernel
theorem dX4_readCompared_18 : decode cX4_readCompared 18 = .ok (.bipush 61, 2) := by decide +kernel
theorem dX4_readCompared_20 : decode cX4_readCompared 20 = .ok (.if_icmp .ne 23, 3) := by decide +kernel
theorem dX4_readCompared_23 : decode cX4_readCompared 23 = .ok (.aload_n 0, 1) := by decide +kernel
theorem dX4_readCompared_24 : decode cX4_readCompared 24 = .ok (.getfield 59, 3) := by decide +kernel
theorem dX4_readCompared_27 : decode cX4_readCompared 27 = .ok (.istore_n 2, 1) := by decide +kernel
theorem dX4_readCompared_28 : decode cX4_readCompared 28 = .ok (.aload_n 0, 1) := by decide +kernel
theorem dX4_readCompared_29 : decode cX4_readCompared 29 = .ok (.invokevirtual 32, 3) := by decide +kernel
theorem dX4_readCompared_32 : decode cX4_readCompared 32 = .ok (.aload_n 0, 1) := by decide +kernel
theorem dX4_readCompared_33 : decode cX4_readCompared 33 = .ok (.iload_n 1, 1) := by decide +kernel
theorem dX4_readCompared_34 : decode cX4_readCompared 34 = .ok (.invokevirtual 74, 3) := by decide +kernel
theorem dX4_readCompared_37 : decode cX4_readCompared 37 = .ok (.aload_n 0, 1) := by decide +kernel
theorem dX4_readCompared_38 : decode cX4_readCompared 38 = .ok (.iload_n 2, 1) := by decide +kernel
theorem dX4_readCompared_39 : decode cX4_readCompared 39 = .ok (.ineg, 1) := by decide +kernel
theorem dX4_readCompared_40 : decode cX4_readCompared 40 = .ok (.invokevirtual 62, 3) := by decide +kernel
theorem dX4_readCompared_43 : decode cX4_readCompared 43 = .ok (.return_, 1) := by decide +kernel
theorem dX4_readSum_0 : decode cX4_readSum 0 = .ok (.aload_n 0, 1) := by decide +kernel
theorem dX4_readSum_1 : decode cX4_readSum 1 = .ok (.iload_n 1, 1) := by decide +kernel
theorem dX4_readSum_2 : decode cX4_readSum 2 = .ok (.invokevirtual 77, 3) := by decide +kernel
theorem dX4_readSum_5 : decode cX4_readSum 5 = .ok (.iconst 0, 1) := by decide +kernel
theorem dX4_readSum_6 : decode cX4_readSum 6 = .ok (.istore_n 2, 1) := by decide +kernel
theorem dX4_readSum_7 : decode cX4_readSum 7 = .ok (.iload_n 2, 1) := by decide +kernel
theorem dX4_readSum_8 : decode cX4_readSum 8 = .ok (.sipush 160, 3) := by decide +kernel
theorem dX4_readSum_11 : decode cX4_readSum 11 = .ok (.if_icmp .ge 47, 3) := by decide +kernel
theorem dX4_readSum_14 : decode cX4_readSum 14 = .ok (.aload_n 0, 1) := by decide +kernel
theorem dX4_readSum_15 : decode cX4_readSum 15 = .ok (.getfield 59, 3) := by decide +kernel
theorem dX4_readSum_18 : decode cX4_readSum 18 = .ok (.bipush 43, 2) := by decide +kernel
theorem dX4_readSum_20 : decode cX4_readSum 20 = .ok (.if_icmp .eq 12, 3) := by decide +kernel
theorem dX4_readSum_23 : decode cX4_readSum 23 = .ok (.aload_n 0, 1) := by decide +kernel
theorem dX4_readSum_24 : decode cX4_readSum 24 = .ok (.getfield 59, 3) := by decide +kernel
theorem dX4_readSum_27 : decode cX4_readSum 27 = .ok (.bipush 45, 2) := by decide +kernel
theorem dX4_readSum_29 : decode cX4_readSum 29 = .ok (.if_icmp .ne 29, 3) := by decide +kernel
theorem dX4_readSum_32 : decode cX4_readSum 32 = .ok (.aload_n 0, 1) := by decide +kernel
theorem dX4_readSum_33 : decode cX4_readSum 33 = .ok (.getfield 59, 3) := by decide +kernel
theorem dX4_readSum_36 : decode cX4_readSum 36 = .ok (.istore_n 3, 1) := by decide +kernel
theorem dX4_readSum_37 : decode cX4_readSum 37 = .ok (.aload_n 0, 1) := by decide +kernel
theorem dX4_readSum_38 : decode cX4_readSum 38 = .ok (.invokevirtual 32, 3) := by decide +kernel
theorem dX4_readSum_41 : decode cX4_readSum 41 = .ok (.aload_n 0, 1) := by decide +kernel
theorem dX4_readSum_42 : decode cX4_readSum 42 = .ok (.iload_n 1, 1) := by decide +kernel
theorem dX4_readSum_43 : decode cX4_readSum 43 = .ok (.invokevirtual 77, 3) := by decide +kernel
theorem dX4_readSum_46 : decode cX4_readSum 46 = .ok (.aload_n 0, 1) := by decide +kernel
theorem dX4_readSum_47 : decode cX4_readSum 47 = .ok (.iload_n 3, 1) := by decide +kernel
theorem dX4_readSum_48 : decode cX4_readSum 48 = .ok (.ineg, 1) := by decide +kernel
theorem dX4_readSum_49 : decode cX4_readSum 49 = .ok (.invokevirtual 62, 3) := by decide +kernel
theorem dX4_readSum_52 : decode cX4_readSum 52 = .ok (.iinc 2 1, 3) := by decide +kernel
theorem dX4_readSum_55 : decode cX4_readSum 55 = .ok (.goto (-48), 3) := by decide +kernel
theorem dX4_readSum_58 : decode cX4_readSum 58 = .ok (.return_, 1) := by decide +kernel
theorem dX4_readTerm_0 : decode cX4_readTerm 0 = .ok (.aload_n 0, 1) := by decide +kernel
theorem dX4_readTerm_1 : decode cX4_readTerm 1 = .ok (.iload_n 1, 1) := by decide +kernel
theorem dX4_readTerm_2 : decode cX4_readTerm 2 = .ok (.invokevirtual 80, 3) := by decide +kernel
theorem dX4_readTerm_5 : decode cX4_readTerm 5 = .ok (.iconst 0, 1) := by decide +kernel
theorem dX4_readTerm_6 : decode cX4_readTerm 6 = .ok (.istore_n 2, 1) := by decide +kernel
theorem dX4_readTerm_7 : decode cX4_readTerm 7 = .ok (.iload_n 2, 1) := by decide +kernel
theorem dX4_readTerm_8 : decode cX4_readTerm 8 = .ok (.sipush 160, 3) := by decide +kernel
theorem dX4_readTerm_11 : decode cX4_readTerm 11 = .ok (.if_icmp .ge 33, 3) := by decide +kernel
theorem dX4_readTerm_14 : decode cX4_readTerm 14 = .ok (.aload_n 0, 1) := by decide +kernel
theorem dX4_readTerm_15 : decode cX4_readTerm 15 = .ok (.getfield 59, 3) := by decide +kernel
theorem dX4_readTerm_18 : decode cX4_readTerm 18 = .ok (.bipush 42, 2) := by decide +kernel
theorem dX4_readTerm_20 : decode cX4_readTerm 20 = .ok (.if_icmp .ne 24, 3) := by decide +kernel
theorem dX4_readTerm_23 : decode cX4_readTerm 23 = .ok (.aload_n 0, 1) := by decide +kernel
theorem dX4_readTerm_24 : decode cX4_readTerm 24 = .ok (.invokevirtual 32, 3) := by decide +kernel
theorem dX4_readTerm_27 : decode cX4_readTerm 27 = .ok (.aload_n 0, 1) := by decide +kernel
theorem dX4_readTerm_28 : decode cX4_readTerm 28 = .ok (.iload_n 1, 1) := by decide +kernel
theorem dX4_readTerm_29 : decode cX4_readTerm 29 = .ok (.invokevirtual 80, 3) := by decide +kernel
theorem dX4_readTerm_32 : decode cX4_readTerm 32 = .ok (.aload_n 0, 1) := by decide +kernel
theorem dX4_readTerm_33 : decode cX4_readTerm 33 = .ok (.bipush (-42), 2) := by decide +kernel
theorem dX4_readTerm_35 : decode cX4_readTerm 35 = .ok (.invokevirtual 62, 3) := by decide +kernel
theorem dX4_readTerm_38 : decode cX4_readTerm 38 = .ok (.iinc 2 1, 3) := by decide +kernel
theorem dX4_readTerm_41 : decode cX4_readTerm 41 = .ok (.goto (-34), 3) := by decide +kernel
theorem dX4_readTerm_44 : decode cX4_readTerm 44 = .ok (.return_, 1) := by decide +kernel
theorem dX4_readOne_0 : decode cX4_readOne 0 = .ok (.aload_n 0, 1) := by decide +kernel
theorem dX4_readOne_1 : decode cX4_readOne 1 = .ok (.getfield 59, 3) := by decide +kernel
theorem dX4_readOne_4 : decode cX4_readOne 4 = .ok (.bipush 12, 2) := by decide +kernel
theorem dX4_readOne_6 : decode cX4_readOne 6 = .ok (.if_icmp .ne 18, 3) := by decide +kernel
theorem dX4_readOne_9 : decode cX4_readOne 9 = .ok (.aload_n 0, 1) := by decide +kernel
theorem dX4_readOne_10 : decode cX4_readOne 10 = .ok (.aload_n 0, 1) := by decide +kernel
theorem dX4_readOne_11 : decode cX4_readOne 11 = .ok (.getfield 83, 3) := by decide +kernel
theorem dX4_readOne_14 : decode cX4_readOne 14 = .ok (.invokevirtual 62, 3) := by decide +kernel
theorem dX4_readOne_17 : decode cX4_readOne 17 = .ok (.aload_n 0, 1) := by decide +kernel
theorem dX4_readOne_18 : decode cX4_readOne 18 = .ok (.invokevirtual 32, 3) := by decide +kernel
theorem dX4_readOne_21 : decode cX4_readOne 21 = .ok (.goto 107, 3) := by decide +kernel
theorem dX4_readOne_24 : decode cX4_readOne 24 = .ok (.aload_n 0, 1) := by decide +kernel
theorem dX4_readOne_25 : decode cX4_readOne 25 = .ok (.getfield 59, 3) := by decide +kernel
theorem dX4_readOne_28 : decode cX4_readOne 28 = .ok (.ifCond .lt 28, 3) := by decide +kernel
theorem dX4_readOne_31 : decode cX4_readOne 31 = .ok (.aload_n 0, 1) := by decide +kernel
theorem dX4_readOne_32 : decode cX4_readOne 32 = .ok (.getfield 59, 3) := by decide +kernel
theorem dX4_readOne_35 : decode cX4_readOne 35 = .ok (.iconst 5, 1) := by decide +kernel
theorem dX4_readOne_36 : decode cX4_readOne 36 = .ok (.if_icmp .gt 20, 3) := by decide +kernel
theorem dX4_readOne_39 : decode cX4_readOne 39 = .ok (.aload_n 0, 1) := by decide +kernel
theorem dX4_readOne_40 : decode cX4_readOne 40 = .ok (.iconst (-1), 1) := by decide +kernel
theorem dX4_readOne_41 : decode cX4_readOne 41 = .ok (.aload_n 0, 1) := by decide +kernel
theorem dX4_readOne_42 : decode cX4_readOne 42 = .ok (.getfield 59, 3) := by decide +kernel
theorem dX4_readOne_45 : decode cX4_readOne 45 = .ok (.isub, 1) := by decide +kernel
theorem dX4_readOne_46 : decode cX4_readOne 46 = .ok (.invokevirtual 62, 3) := by decide +kernel
theorem dX4_readOne_49 : decode cX4_readOne 49 = .ok (.aload_n 0, 1) := by decide +kernel
theorem dX4_readOne_50 : decode cX4_readOne 50 = .ok (.invokevirtual 32, 3) := by decide +kernel
theorem dX4_readOne_53 : decode cX4_readOne 53 = .ok (.goto 75, 3) := by decide +kernel
theorem dX4_readOne_56 : decode cX4_readOne 56 = .ok (.aload_n 0, 1) := by decide +kernel
theorem dX4_readOne_57 : decode cX4_readOne 57 = .ok (.getfield 59, 3) := by decide +kernel
theorem dX4_readOne_60 : decode cX4_readOne 60 = .ok (.bipush 45, 2) := by decide +kernel
theorem dX4_readOne_62 : decode cX4_readOne 62 = .ok (.if_icmp .ne 28, 3) := by decide +kernel
theorem dX4_readOne_65 : decode cX4_readOne 65 = .ok (.iload_n 1, 1) := by decide +kernel
theorem dX4_readOne_66 : decode cX4_readOne 66 = .ok (.iconst 5, 1) := by decide +kernel
theorem dX4_readOne_67 : decode cX4_readOne 67 = .ok (.if_icmp .ge 23, 3) := by decide +kernel
theorem dX4_readOne_70 : decode cX4_readOne 70 = .ok (.aload_n 0, 1) := by decide +kernel
theorem dX4_readOne_71 : decode cX4_readOne 71 = .ok (.invokevirtual 32, 3) := by decide +kernel
theorem dX4_readOne_74 : decode cX4_readOne 74 = .ok (.aload_n 0, 1) := by decide +kernel
theorem dX4_readOne_75 : decode cX4_readOne 75 = .ok (.iload_n 1, 1) := by decide +kernel
theorem dX4_readOne_76 : decode cX4_readOne 76 = .ok (.iconst 1, 1) := by decide +kernel
theorem dX4_readOne_77 : decode cX4_readOne 77 = .ok (.iadd, 1) := by decide +kernel
theorem dX4_readOne_78 : decode cX4_readOne 78 = .ok (.invokevirtual 80, 3) := by decide +kernel
theorem dX4_readOne_81 : decode cX4_readOne 81 = .ok (.aload_n 0, 1) := by decide +kernel
theorem dX4_readOne_82 : decode cX4_readOne 82 = .ok (.bipush (-100), 2) := by decide +kernel
theorem dX4_readOne_84 : decode cX4_readOne 84 = .ok (.invokevirtual 62, 3) := by decide +kernel
theorem dX4_readOne_87 : decode cX4_readOne 87 = .ok (.goto 41, 3) := by decide +kernel
theorem dX4_readOne_90 : decode cX4_readOne 90 = .ok (.aload_n 0, 1) := by decide +kernel
theorem dX4_readOne_91 : decode cX4_readOne 91 = .ok (.getfield 59, 3) := by decide +kernel
theorem dX4_readOne_94 : decode cX4_readOne 94 = .ok (.bipush 40, 2) := by decide +kernel
theorem dX4_readOne_96 : decode cX4_readOne 96 = .ok (.if_icmp .ne 28, 3) := by decide +kernel
theorem dX4_readOne_99 : decode cX4_readOne 99 = .ok (.iload_n 1, 1) := by decide +kernel
theorem dX4_readOne_100 : decode cX4_readOne 100 = .ok (.iconst 5, 1) := by decide +kernel
theorem dX4_readOne_101 : decode cX4_readOne 101 = .ok (.if_icmp .ge 23, 3) := by decide +kernel
theorem dX4_readOne_104 : decode cX4_readOne 104 = .ok (.aload_n 0, 1) := by decide +kernel
theorem dX4_readOne_105 : decode cX4_readOne 105 = .ok (.invokevirtual 32, 3) := by decide +kernel
theorem dX4_readOne_108 : decode cX4_readOne 108 = .ok (.aload_n 0, 1) := by decide +kernel
theorem dX4_readOne_109 : decode cX4_readOne 109 = .ok (.iload_n 1, 1) := by decide +kernel
theorem dX4_readOne_110 : decode cX4_readOne 110 = .ok (.iconst 1, 1) := by decide +kernel
theorem dX4_readOne_111 : decode cX4_readOne 111 = .ok (.iadd, 1) := by decide +kernel
theorem dX4_readOne_112 : decode cX4_readOne 112 = .ok (.invokevirtual 53, 3) := by decide +kernel
theorem dX4_readOne_115 : decode cX4_readOne 115 = .ok (.aload_n 0, 1) := by decide +kernel
theorem dX4_readOne_116 : decode cX4_readOne 116 = .ok (.bipush 41, 2) := by decide +kernel
theorem dX4_readOne_118 : decode cX4_readOne 118 = .ok (.invokevirtual 39, 3) := by decide +kernel
theorem dX4_readOne_121 : decode cX4_readOne 121 = .ok (.goto 7, 3) := by decide +kernel
theorem dX4_readOne_124 : decode cX4_readOne 124 = .ok (.aload_n 0, 1) := by decide +kernel
theorem dX4_readOne_125 : decode cX4_readOne 125 = .ok (.invokevirtual 71, 3) := by decide +kernel
theorem dX4_readOne_128 : decode cX4_readOne 128 = .ok (.return_, 1) := by decide +kernel
theorem dX4_take_0 : decode cX4_take 0 = .ok (.aload_n 0, 1) := by decide +kernel
theorem dX4_take_1 : decode cX4_take 1 = .ok (.getfield 59, 3) := by decide +kernel
theorem dX4_take_4 : decode cX4_take 4 = .ok (.iload_n 1, 1) := by decide +kernel
theorem dX4_take_5 : decode cX4_take 5 = .ok (.if_icmp .ne 10, 3) := by decide +kernel
theorem dX4_take_8 : decode cX4_take 8 = .ok (.aload_n 0, 1) := by decide +kernel
theorem dX4_take_9 : decode cX4_take 9 = .ok (.invokevirtual 32, 3) := by decide +kernel
theorem dX4_take_12 : decode cX4_take 12 = .ok (.goto 7, 3) := by decide +kernel
theorem dX4_take_15 : decode cX4_take 15 = .ok (.aload_n 0, 1) := by decide +kernel
theorem dX4_take_16 : decode cX4_take 16 = .ok (.invokevirtual 71, 3) := by decide +kernel
theorem dX4_take_19 : decode cX4_take 19 = .ok (.return_, 1) := by decide +kernel
theorem dX4_fail_0 : decode cX4_fail 0 = .ok (.aload_n 0, 1) := by decide +kernel
theorem dX4_fail_1 : decode cX4_fail 1 = .ok (.getfield 19, 3) := by decide +kernel
theorem dX4_fail_4 : decode cX4_fail 4 = .ok (.iconst (-1), 1) := by decide +kernel
theorem dX4_fail_5 : decode cX4_fail 5 = .ok (.if_icmp .ne 11, 3) := by decide +kernel
theorem dX4_fail_8 : decode cX4_fail 8 = .ok (.aload_n 0, 1) := by decide +kernel
theorem dX4_fail_9 : decode cX4_fail 9 = .ok (.aload_n 0, 1) := by decide +kernel
theorem dX4_fail_10 : decode cX4_fail 10 = .ok (.getfield 86, 3) := by decide +kernel
theorem dX4_fail_13 : decode cX4_fail 13 = .ok (.putfield 19, 3) := by decide +kernel
theorem dX4_fail_16 : decode cX4_fail 16 = .ok (.aload_n 0, 1) := by decide +kernel
theorem dX4_fail_17 : decode cX4_fail 17 = .ok (.bipush 14, 2) := by decide +kernel
theorem dX4_fail_19 : decode cX4_fail 19 = .ok (.putfield 59, 3) := by decide +kernel
theorem dX4_fail_22 : decode cX4_fail 22 = .ok (.return_, 1) := by decide +kernel
theorem dX4_emit_0 : decode cX4_emit 0 = .ok (.aload_n 0, 1) := by decide +kernel
theorem dX4_emit_1 : decode cX4_emit 1 = .ok (.getfield 29, 3) := by decide +kernel
theorem dX4_emit_4 : decode cX4_emit 4 = .ok (.sipush 160, 3) := by decide +kernel
theorem dX4_emit_7 : decode cX4_emit 7 = .ok (.if_icmp .ge 23, 3) := by decide +kernel
theorem dX4_emit_10 : decode cX4_emit 10 = .ok (.aload_n 0, 1) := by decide +kernel
theorem dX4_emit_11 : decode cX4_emit 11 = .ok (.getfield 15, 3) := by decide +kernel
theorem dX4_emit_14 : decode cX4_emit 14 = .ok (.aload_n 0, 1) := by decide +kernel
theorem dX4_emit_15 : decode cX4_emit 15 = .ok (.getfield 29, 3) := by decide +kernel
theorem dX4_emit_18 : decode cX4_emit 18 = .ok (.iload_n 1, 1) := by decide +kernel
theorem dX4_emit_19 : decode cX4_emit 19 = .ok (.iastore, 1) := by decide +kernel
theorem dX4_emit_20 : decode cX4_emit 20 = .ok (.aload_n 0, 1) := by decide +kernel
theorem dX4_emit_21 : decode cX4_emit 21 = .ok (.dup, 1) := by decide +kernel
theorem dX4_emit_22 : decode cX4_emit 22 = .ok (.getfield 29, 3) := by decide +kernel
theorem dX4_emit_25 : decode cX4_emit 25 = .ok (.iconst 1, 1) := by decide +kernel
theorem dX4_emit_26 : decode cX4_emit 26 = .ok (.iadd, 1) := by decide +kernel
theorem dX4_emit_27 : decode cX4_emit 27 = .ok (.putfield 29, 3) := by decide +kernel
theorem dX4_emit_30 : decode cX4_emit 30 = .ok (.return_, 1) := by decide +kernel
theorem dX4_next_0 : decode cX4_next 0 = .ok (.aload_n 0, 1) := by decide +kernel
theorem dX4_next_1 : decode cX4_next 1 = .ok (.aload_n 0, 1) := by decide +kernel
theorem dX4_next_2 : decode cX4_next 2 = .ok (.bipush 32, 2) := by decide +kernel
theorem dX4_next_4 : decode cX4_next 4 = .ok (.aload_n 0, 1) := by decide +kernel
theorem dX4_next_5 : decode cX4_next 5 = .ok (.getfield 26, 3) := by decide +kernel
theorem dX4_next_8 : decode cX4_next 8 = .ok (.invokevirtual 89, 3) := by decide +kernel
theorem dX4_next_11 : decode cX4_next 11 = .ok (.putfield 26, 3) := by decide +kernel
theorem dX4_next_14 : decode cX4_next 14 = .ok (.aload_n 0, 1) := by decide +kernel
theorem dX4_next_15 : decode cX4_next 15 = .ok (.aload_n 0, 1) := by decide +kernel
theorem dX4_next_16 : decode cX4_next 16 = .ok (.getfield 26, 3) := by decide +kernel
theorem dX4_next_19 : decode cX4_next 19 = .ok (.putfield 86, 3) := by decide +kernel
theorem dX4_next_22 : decode cX4_next 22 = .ok (.aload_n 0, 1) := by decide +kernel
theorem dX4_next_23 : decode cX4_next 23 = .ok (.getfield 26, 3) := by decide +kernel
theorem dX4_next_26 : decode cX4_next 26 = .ok (.aload_n 0, 1) := by decide +kernel
theorem dX4_next_27 : decode cX4_next 27 = .ok (.getfield 23, 3) := by decide +kernel
theorem dX4_next_30 : decode cX4_next 30 = .ok (.if_icmp .lt 10, 3) := by decide +kernel
theorem dX4_next_33 : decode cX4_next 33 = .ok (.aload_n 0, 1) := by decide +kernel
theorem dX4_next_34 : decode cX4_next 34 = .ok (.bipush 13, 2) := by decide +kernel
theorem dX4_next_36 : decode cX4_next 36 = .ok (.putfield 59, 3) := by decide +kernel
theorem dX4_next_39 : decode cX4_next 39 = .ok (.return_, 1) := by decide +kernel
theorem dX4_next_40 : decode cX4_next 40 = .ok (.aload_n 0, 1) := by decide +kernel
theorem dX4_next_41 : decode cX4_next 41 = .ok (.getfield 9, 3) := by decide +kernel
theorem dX4_next_44 : decode cX4_next 44 = .ok (.aload_n 0, 1) := by decide +kernel
theorem dX4_next_45 : decode cX4_next 45 = .ok (.getfield 26, 3) := by decide +kernel
theorem dX4_next_48 : decode cX4_next 48 = .ok (.baload, 1) := by decide +kernel
theorem dX4_next_49 : decode cX4_next 49 = .ok (.sipush 255, 3) := by decide +kernel
theorem dX4_next_52 : decode cX4_next 52 = .ok (.iand, 1) := by decide +kernel
theorem dX4_next_53 : decode cX4_next 53 = .ok (.istore_n 1, 1) := by decide +kernel
theorem dX4_next_54 : decode cX4_next 54 = .ok (.iload_n 1, 1) := by decide +kernel
theorem dX4_next_55 : decode cX4_next 55 = .ok (.invokestatic 93, 3) := by decide +kernel
theorem dX4_next_58 : decode cX4_next 58 = .ok (.istore_n 2, 1) := by decide +kernel
theorem dX4_next_59 : decode cX4_next 59 = .ok (.iload_n 2, 1) := by decide +kernel
theorem dX4_next_60 : decode cX4_next 60 = .ok (.bipush 97, 2) := by decide +kernel
theorem dX4_next_62 : decode cX4_next 62 = .ok (.if_icmp .eq 9, 3) := by decide +kernel
theorem dX4_next_65 : decode cX4_next 65 = .ok (.iload_n 2, 1) := by decide +kernel
theorem dX4_next_66 : decode cX4_next 66 = .ok (.bipush 48, 2) := by decide +kernel
theorem dX4_next_68 : decode cX4_next 68 = .ok (.if_icmp .ne 40, 3) := by decide +kernel
theorem dX4_next_71 : decode cX4_next 71 = .ok (.aload_n 0, 1) := by decide +kernel
theorem dX4_next_72 : decode cX4_next 72 = .ok (.aload_n 0, 1) := by decide +kernel
theorem dX4_next_73 : decode cX4_next 73 = .ok (.iload_n 2, 1) := by decide +kernel
theorem dX4_next_74 : decode cX4_next 74 = .ok (.aload_n 0, 1) := by decide +kernel
theorem dX4_next_75 : decode cX4_next 75 = .ok (.getfield 26, 3) := by decide +kernel
theorem dX4_next_78 : decode cX4_next 78 = .ok (.invokevirtual 89, 3) := by decide +kernel
theorem dX4_next_81 : decode cX4_next 81 = .ok (.putfield 26, 3) := by decide +kernel
theorem dX4_next_84 : decode cX4_next 84 = .ok (.aload_n 0, 1) := by decide +kernel
theorem dX4_next_85 : decode cX4_next 85 = .ok (.iload_n 2, 1) := by decide +kernel
theorem dX4_next_86 : decode cX4_next 86 = .ok (.bipush 97, 2) := by decide +kernel
theorem dX4_next_88 : decode cX4_next 88 = .ok (.if_icmp .ne 10, 3) := by decide +kernel
theorem dX4_next_91 : decode cX4_next 91 = .ok (.aload_n 0, 1) := by decide +kernel
theorem dX4_next_92 : decode cX4_next 92 = .ok (.invokevirtual 97, 3) := by decide +kernel
theorem dX4_next_95 : decode cX4_next 95 = .ok (.goto 7, 3) := by decide +kernel
theorem dX4_next_98 : decode cX4_next 98 = .ok (.aload_n 0, 1) := by decide +kernel
theorem dX4_next_99 : decode cX4_next 99 = .ok (.invokevirtual 101, 3) := by decide +kernel
theorem dX4_next_102 : decode cX4_next 102 = .ok (.putfield 59, 3) := by decide +kernel
theorem dX4_next_105 : decode cX4_next 105 = .ok (.goto 33, 3) := by decide +kernel
theorem dX4_next_108 : decode cX4_next 108 = .ok (.aload_n 0, 1) := by decide +kernel
theorem dX4_next_109 : decode cX4_next 109 = .ok (.dup, 1) := by decide +kernel
theorem dX4_next_110 : decode cX4_next 110 = .ok (.getfield 26, 3) := by decide +kernel
theorem dX4_next_113 : decode cX4_next 113 = .ok (.iconst 1, 1) := by decide +kernel
theorem dX4_next_114 : decode cX4_next 114 = .ok (.iadd, 1) := by decide +kernel
theorem dX4_next_115 : decode cX4_next 115 = .ok (.putfield 26, 3) := by decide +kernel
theorem dX4_next_118 : decode cX4_next 118 = .ok (.aload_n 0, 1) := by decide +kernel
theorem dX4_next_119 : decode cX4_next 119 = .ok (.ldc 104, 2) := by decide +kernel
theorem dX4_next_121 : decode cX4_next 121 = .ok (.iload_n 1, 1) := by decide +kernel
theorem dX4_next_122 : decode cX4_next 122 = .ok (.i2c, 1) := by decide +kernel
theorem dX4_next_123 : decode cX4_next 123 = .ok (.invokevirtual 106, 3) := by decide +kernel
theorem dX4_next_126 : decode cX4_next 126 = .ok (.ifCond .lt 7, 3) := by decide +kernel
theorem dX4_next_129 : decode cX4_next 129 = .ok (.iload_n 1, 1) := by decide +kernel
theorem dX4_next_130 : decode cX4_next 130 = .ok (.goto 5, 3) := by decide +kernel
theorem dX4_next_133 : decode cX4_next 133 = .ok (.bipush 14, 2) := by decide +kernel
theorem dX4_next_135 : decode cX4_next 135 = .ok (.putfield 59, 3) := by decide +kernel
theorem dX4_next_138 : decode cX4_next 138 = .ok (.return_, 1) := by decide +kernel
theorem dX4_sortOf_0 : decode cX4_sortOf 0 = .ok (.iload_n 0, 1) := by decide +kernel
theorem dX4_sortOf_1 : decode cX4_sortOf 1 = .ok (.bipush 32, 2) := by decide +kernel
theorem dX4_sortOf_3 : decode cX4_sortOf 3 = .ok (.if_icmp .eq 9, 3) := by decide +kernel
theorem dX4_sortOf_6 : decode cX4_sortOf 6 = .ok (.iload_n 0, 1) := by decide +kernel
theorem dX4_sortOf_7 : decode cX4_sortOf 7 = .ok (.bipush 10, 2) := by decide +kernel
theorem dX4_sortOf_9 : decode cX4_sortOf 9 = .ok (.if_icmp .ne 6, 3) := by decide +kernel
theorem dX4_sortOf_12 : decode cX4_sortOf 12 = .ok (.bipush 32, 2) := by decide +kernel
theorem dX4_sortOf_14 : decode cX4_sortOf 14 = .ok (.ireturn, 1) := by decide +kernel
theorem dX4_sortOf_15 : decode cX4_sortOf 15 = .ok (.iload_n 0, 1) := by decide +kernel
theorem dX4_sortOf_16 : decode cX4_sortOf 16 = .ok (.bipush 97, 2) := by decide +kernel
theorem dX4_sortOf_18 : decode cX4_sortOf 18 = .ok (.if_icmp .lt 14, 3) := by decide +kernel
theorem dX4_sortOf_21 : decode cX4_sortOf 21 = .ok (.iload_n 0, 1) := by decide +kernel
theorem dX4_sortOf_22 : decode cX4_sortOf 22 = .ok (.bipush 122, 2) := by decide +kernel
theorem dX4_sortOf_24 : decode cX4_sortOf 24 = .ok (.if_icmp .gt 8, 3) := by decide +kernel
theorem dX4_sortOf_27 : decode cX4_sortOf 27 = .ok (.bipush 97, 2) := by decide +kernel
theorem dX4_sortOf_29 : decode cX4_sortOf 29 = .ok (.goto 21, 3) := by decide +kernel
theorem dX4_sortOf_32 : decode cX4_sortOf 32 = .ok (.iload_n 0, 1) := by decide +kernel
theorem dX4_sortOf_33 : decode cX4_sortOf 33 = .ok (.bipush 48, 2) := by decide +kernel
theorem dX4_sortOf_35 : decode cX4_sortOf 35 = .ok (.if_icmp .lt 14, 3) := by decide +kernel
theorem dX4_sortOf_38 : decode cX4_sortOf 38 = .ok (.iload_n 0, 1) := by decide +kernel
theorem dX4_sortOf_39 : decode cX4_sortOf 39 = .ok (.bipush 57, 2) := by decide +kernel
theorem dX4_sortOf_41 : decode cX4_sortOf 41 = .ok (.if_icmp .gt 8, 3) := by decide +kernel
theorem dX4_sortOf_44 : decode cX4_sortOf 44 = .ok (.bipush 48, 2) := by decide +kernel
theorem dX4_sortOf_46 : decode cX4_sortOf 46 = .ok (.goto 4, 3) := by decide +kernel
theorem dX4_sortOf_49 : decode cX4_sortOf 49 = .ok (.iconst (-1), 1) := by decide +kernel
theorem dX4_sortOf_50 : decode cX4_sortOf 50 = .ok (.ireturn, 1) := by decide +kernel
theorem dX4_endOf_0 : decode cX4_endOf 0 = .ok (.iload_n 2, 1) := by decide +kernel
theorem dX4_endOf_1 : decode cX4_endOf 1 = .ok (.istore_n 3, 1) := by decide +kernel
theorem dX4_endOf_2 : decode cX4_endOf 2 = .ok (.iload_n 3, 1) := by decide +kernel
theorem dX4_endOf_3 : decode cX4_endOf 3 = .ok (.aload_n 0, 1) := by decide +kernel
theorem dX4_endOf_4 : decode cX4_endOf 4 = .ok (.getfield 23, 3) := by decide +kernel
theorem dX4_endOf_7 : decode cX4_endOf 7 = .ok (.if_icmp .ge 33, 3) := by decide +kernel
theorem dX4_endOf_10 : decode cX4_endOf 10 = .ok (.iload_n 3, 1) := by decide +kernel
theorem dX4_endOf_11 : decode cX4_endOf 11 = .ok (.sipush 160, 3) := by decide +kernel
theorem dX4_endOf_14 : decode cX4_endOf 14 = .ok (.if_icmp .ge 26, 3) := by decide +kernel
theorem dX4_endOf_17 : decode cX4_endOf 17 = .ok (.aload_n 0, 1) := by decide +kernel
theorem dX4_endOf_18 : decode cX4_endOf 18 = .ok (.getfield 9, 3) := by decide +kernel
theorem dX4_endOf_21 : decode cX4_endOf 21 = .ok (.iload_n 3, 1) := by decide +kernel
theorem dX4_endOf_22 : decode cX4_endOf 22 = .ok (.baload, 1) := by decide +kernel
theorem dX4_endOf_23 : decode cX4_endOf 23 = .ok (.sipush 255, 3) := by decide +kernel
theorem dX4_endOf_26 : decode cX4_endOf 26 = .ok (.iand, 1) := by decide +kernel
theorem dX4_endOf_27 : decode cX4_endOf 27 = .ok (.invokestatic 93, 3) := by decide +kernel
theorem dX4_endOf_30 : decode cX4_endOf 30 = .ok (.iload_n 1, 1) := by decide +kernel
theorem dX4_endOf_31 : decode cX4_endOf 31 = .ok (.if_icmp .ne 9, 3) := by decide +kernel
theorem dX4_endOf_34 : decode cX4_endOf 34 = .ok (.iinc 3 1, 3) := by decide +kernel
theorem dX4_endOf_37 : decode cX4_endOf 37 = .ok (.goto (-35), 3) := by decide +kernel
theorem dX4_endOf_40 : decode cX4_endOf 40 = .ok (.iload_n 3, 1) := by decide +kernel
theorem dX4_endOf_41 : decode cX4_endOf 41 = .ok (.ireturn, 1) := by decide +kernel
theorem dX4_numberToken_0 : decode cX4_numberToken 0 = .ok (.aload_n 0, 1) := by decide +kernel
theorem dX4_numberToken_1 : decode cX4_numberToken 1 = .ok (.iconst 0, 1) := by decide +kernel
theorem dX4_numberToken_2 : decode cX4_numberToken 2 = .ok (.putfield 83, 3) := by decide +kernel
theorem dX4_numberToken_5 : decode cX4_numberToken 5 = .ok (.aload_n 0, 1) := by decide +kernel
theorem dX4_numberToken_6 : decode cX4_numberToken 6 = .ok (.getfield 86, 3) := by decide +kernel
theorem dX4_numberToken_9 : decode cX4_numberToken 9 = .ok (.istore_n 1, 1) := by decide +kernel
theorem dX4_numberToken_10 : decode cX4_numberToken 10 = .ok (.iload_n 1, 1) := by decide +kernel
theorem dX4_numberToken_11 : decode cX4_numberToken 11 = .ok (.aload_n 0, 1) := by decide +kernel
theorem dX4_numberToken_12 : decode cX4_numberToken 12 = .ok (.getfield 26, 3) := by decide +kernel
theorem dX4_numberToken_15 : decode cX4_numberToken 15 = .ok (.if_icmp .ge 30, 3) := by decide +kernel
theorem dX4_numberToken_18 : decode cX4_numberToken 18 = .ok (.aload_n 0, 1) := by decide +kernel
theorem dX4_numberToken_19 : decode cX4_numberToken 19 = .ok (.aload_n 0, 1) := by decide +kernel
theorem dX4_numberToken_20 : decode cX4_numberToken 20 = .ok (.getfield 83, 3) := by decide +kernel
theorem dX4_numberToken_23 : decode cX4_numberToken 23 = .ok (.bipush 10, 2) := by decide +kernel
theorem dX4_numberToken_25 : decode cX4_numberToken 25 = .ok (.imul, 1) := by decide +kernel
theorem dX4_numberToken_26 : decode cX4_numberToken 26 = .ok (.aload_n 0, 1) := by decide +kernel
theorem dX4_numberToken_27 : decode cX4_numberToken 27 = .ok (.getfield 9, 3) := by decide +kernel
theorem dX4_numberToken_30 : decode cX4_numberToken 30 = .ok (.iload_n 1, 1) := by decide +kernel
theorem dX4_numberToken_31 : decode cX4_numberToken 31 = .ok (.baload, 1) := by decide +kernel
theorem dX4_numberToken_32 : decode cX4_numberToken 32 = .ok (.bipush 48, 2) := by decide +kernel
theorem dX4_numberToken_34 : decode cX4_numberToken 34 = .ok (.isub, 1) := by decide +kernel
theorem dX4_numberToken_35 : decode cX4_numberToken 35 = .ok (.iadd, 1) := by decide +kernel
theorem dX4_numberToken_36 : decode cX4_numberToken 36 = .ok (.putfield 83, 3) := by decide +kernel
theorem dX4_numberToken_39 : decode cX4_numberToken 39 = .ok (.iinc 1 1, 3) := by decide +kernel
theorem dX4_numberToken_42 : decode cX4_numberToken 42 = .ok (.goto (-32), 3) := by decide +kernel
theorem dX4_numberToken_45 : decode cX4_numberToken 45 = .ok (.aload_n 0, 1) := by decide +kernel
theorem dX4_numberToken_46 : decode cX4_numberToken 46 = .ok (.getfield 26, 3) := by decide +kernel
theorem dX4_numberToken_49 : decode cX4_numberToken 49 = .ok (.aload_n 0, 1) := by decide +kernel
theorem dX4_numberToken_50 : decode cX4_numberToken 50 = .ok (.getfield 86, 3) := by decide +kernel
theorem dX4_numberToken_53 : decode cX4_numberToken 53 = .ok (.isub, 1) := by decide +kernel
theorem dX4_numberToken_54 : decode cX4_numberToken 54 = .ok (.iconst 4, 1) := by decide +kernel
theorem dX4_numberToken_55 : decode cX4_numberToken 55 = .ok (.if_icmp .gt 8, 3) := by decide +kernel
theorem dX4_numberToken_58 : decode cX4_numberToken 58 = .ok (.bipush 12, 2) := by decide +kernel
theorem dX4_numberToken_60 : decode cX4_numberToken 60 = .ok (.goto 5, 3) := by decide +kernel
theorem dX4_numberToken_63 : decode cX4_numberToken 63 = .ok (.bipush 14, 2) := by decide +kernel
theorem dX4_numberToken_65 : decode cX4_numberToken 65 = .ok (.ireturn, 1) := by decide +kernel
theorem dX4_wordToken_0 : decode cX4_wordToken 0 = .ok (.iconst 0, 1) := by decide +kernel
theorem dX4_wordToken_1 : decode cX4_wordToken 1 = .ok (.istore_n 1, 1) := by decide +kernel
theorem dX4_wordToken_2 : decode cX4_wordToken 2 = .ok (.aload_n 0, 1) := by decide +kernel
theorem dX4_wordToken_3 : decode cX4_wordToken 3 = .ok (.getfield 86, 3) := by decide +kernel
theorem dX4_wordToken_6 : decode cX4_wordToken 6 = .ok (.istore_n 2, 1) := by decide +kernel
theorem dX4_wordToken_7 : decode cX4_wordToken 7 = .ok (.iconst 1, 1) := by decide +kernel
theorem dX4_wordToken_8 : decode cX4_wordToken 8 = .ok (.istore_n 3, 1) := by decide +kernel
theorem dX4_wordToken_9 : decode cX4_wordToken 9 = .ok (.iconst 0, 1) := by decide +kernel
theorem dX4_wordToken_10 : decode cX4_wordToken 10 = .ok (.istore 4, 2) := by decide +kernel
theorem dX4_wordToken_12 : decode cX4_wordToken 12 = .ok (.iload 4, 2) := by decide +kernel
theorem dX4_wordToken_14 : decode cX4_wordToken 14 = .ok (.ldc 111, 2) := by decide +kernel
theorem dX4_wordToken_16 : decode cX4_wordToken 16 = .ok (.invokevirtual 113, 3) := by decide +kernel
theorem dX4_wordToken_19 : decode cX4_wordToken 19 = .ok (.if_icmp .ge 84, 3) := by decide +kernel
theorem dX4_wordToken_22 : decode cX4_wordToken 22 = .ok (.ldc 111, 2) := by decide +kernel
theorem dX4_wordToken_24 : decode cX4_wordToken 24 = .ok (.iload 4, 2) := by decide +kernel
theorem dX4_wordToken_26 : decode cX4_wordToken 26 = .ok (.invokevirtual 116, 3) := by decide +kernel
theorem dX4_wordToken_29 : decode cX4_wordToken 29 = .ok (.istore 5, 2) := by decide +kernel
theorem dX4_wordToken_31 : decode cX4_wordToken 31 = .ok (.iload 5, 2) := by decide +kernel
theorem dX4_wordToken_33 : decode cX4_wordToken 33 = .ok (.bipush 32, 2) := by decide +kernel
theorem dX4_wordToken_35 : decode cX4_wordToken 35 = .ok (.if_icmp .eq 38, 3) := by decide +kernel
theorem dX4_wordToken_38 : decode cX4_wordToken 38 = .ok (.iload_n 3, 1) := by decide +kernel
theorem dX4_wordToken_39 : decode cX4_wordToken 39 = .ok (.ifCond .eq 26, 3) := by decide +kernel
theorem dX4_wordToken_42 : decode cX4_wordToken 42 = .ok (.iload_n 2, 1) := by decide +kernel
theorem dX4_wordToken_43 : decode cX4_wordToken 43 = .ok (.aload_n 0, 1) := by decide +kernel
theorem dX4_wordToken_44 : decode cX4_wordToken 44 = .ok (.getfield 26, 3) := by decide +kernel
theorem dX4_wordToken_47 : decode cX4_wordToken 47 = .ok (.if_icmp .ge 18, 3) := by decide +kernel
theorem dX4_wordToken_50 : decode cX4_wordToken 50 = .ok (.aload_n 0, 1) := by decide +kernel
theorem dX4_wordToken_51 : decode cX4_wordToken 51 = .ok (.getfield 9, 3) := by decide +kernel
theorem dX4_wordToken_54 : decode cX4_wordToken 54 = .ok (.iload_n 2, 1) := by decide +kernel
theorem dX4_wordToken_55 : decode cX4_wordToken 55 = .ok (.baload, 1) := by decide +kernel
theorem dX4_wordToken_56 : decode cX4_wordToken 56 = .ok (.iload 5, 2) := by decide +kernel
theorem dX4_wordToken_58 : decode cX4_wordToken 58 = .ok (.if_icmp .ne 7, 3) := by decide +kernel
theorem dX4_wordToken_61 : decode cX4_wordToken 61 = .ok (.iconst 1, 1) := by decide +kernel
theorem dX4_wordToken_62 : decode cX4_wordToken 62 = .ok (.goto 4, 3) := by decide +kernel
theorem dX4_wordToken_65 : decode cX4_wordToken 65 = .ok (.iconst 0, 1) := by decide +kernel
theorem dX4_wordToken_66 : decode cX4_wordToken 66 = .ok (.istore_n 3, 1) := by decide +kernel
theorem dX4_wordToken_67 : decode cX4_wordToken 67 = .ok (.iinc 2 1, 3) := by decide +kernel
theorem dX4_wordToken_70 : decode cX4_wordToken 70 = .ok (.goto 27, 3) := by decide +kernel
theorem dX4_wordToken_73 : decode cX4_wordToken 73 = .ok (.iload_n 3, 1) := by decide +kernel
theorem dX4_wordToken_74 : decode cX4_wordToken 74 = .ok (.ifCond .eq 13, 3) := by decide +kernel
theorem dX4_wordToken_77 : decode cX4_wordToken 77 = .ok (.iload_n 2, 1) := by decide +kernel
theorem dX4_wordToken_78 : decode cX4_wordToken 78 = .ok (.aload_n 0, 1) := by decide +kernel
theorem dX4_wordToken_79 : decode cX4_wordToken 79 = .ok (.getfield 26, 3) := by decide +kernel
theorem dX4_wordToken_82 : decode cX4_wordToken 82 = .ok (.if_icmp .ne 5, 3) := by decide +kernel
theorem dX4_wordToken_85 : decode cX4_wordToken 85 = .ok (.iload_n 1, 1) := by decide +kernel
theorem dX4_wordToken_86 : decode cX4_wordToken 86 = .ok (.ireturn, 1) := by decide +kernel
theorem dX4_wordToken_87 : decode cX4_wordToken 87 = .ok (.iinc 1 1, 3) := by decide +kernel
theorem dX4_wordToken_90 : decode cX4_wordToken 90 = .ok (.aload_n 0, 1) := by decide +kernel
theorem dX4_wordToken_91 : decode cX4_wordToken 91 = .ok (.getfield 86, 3) := by decide +kernel
theorem dX4_wordToken_94 : decode cX4_wordToken 94 = .ok (.istore_n 2, 1) := by decide +kernel
theorem dX4_wordToken_95 : decode cX4_wordToken 95 = .ok (.iconst 1, 1) := by decide +kernel
theorem dX4_wordToken_96 : decode cX4_wordToken 96 = .ok (.istore_n 3, 1) := by decide +kernel
theorem dX4_wordToken_97 : decode cX4_wordToken 97 = .ok (.iinc 4 1, 3) := by decide +kernel
theorem dX4_wordToken_100 : decode cX4_wordToken 100 = .ok (.goto (-88), 3) := by decide +kernel
theorem dX4_wordToken_103 : decode cX4_wordToken 103 = .ok (.bipush 14, 2) := by decide +kernel
theorem dX4_wordToken_105 : decode cX4_wordToken 105 = .ok (.ireturn, 1) := by decide +kernel
theorem dX5_init_0 : decode cX5_init 0 = .ok (.aload_n 0, 1) := by decide +kernel
theorem dX5_init_1 : decode cX5_init 1 = .ok (.invokespecial 3, 3) := by decide +kernel
theorem dX5_init_4 : decode cX5_init 4 = .ok (.aload_n 0, 1) := by decide +kernel
theorem dX5_init_5 : decode cX5_init 5 = .ok (.aload_n 1, 1) := by decide +kernel
theorem dX5_init_6 : decode cX5_init 6 = .ok (.putfield 9, 3) := by decide +kernel
theorem dX5_init_9 : decode cX5_init 9 = .ok (.aload_n 0, 1) := by decide +kernel
theorem dX5_init_10 : decode cX5_init 10 = .ok (.iload_n 2, 1) := by decide +kernel
theorem dX5_init_11 : decode cX5_init 11 = .ok (.putfield 15, 3) := by decide +kernel
theorem dX5_init_14 : decode cX5_init 14 = .ok (.aload_n 0, 1) := by decide +kernel
theorem dX5_init_15 : decode cX5_init 15 = .ok (.iload_n 3, 1) := by decide +kernel
theorem dX5_init_16 : decode cX5_init 16 = .ok (.putfield 19, 3) := by decide +kernel
theorem dX5_init_19 : decode cX5_init 19 = .ok (.return_, 1) := by decide +kernel
theorem dX5_valueOf_0 : decode cX5_valueOf 0 = .ok (.iload_n 1, 1) := by decide +kernel
theorem dX5_valueOf_1 : decode cX5_valueOf 1 = .ok (.ifCond .ne 7, 3) := by decide +kernel
theorem dX5_valueOf_4 : decode cX5_valueOf 4 = .ok (.iconst 0, 1) := by decide +kernel
theorem dX5_valueOf_5 : decode cX5_valueOf 5 = .ok (.goto 19, 3) := by decide +kernel
theorem dX5_valueOf_8 : decode cX5_valueOf 8 = .ok (.iload_n 1, 1) := by decide +kernel
theorem dX5_valueOf_9 : decode cX5_valueOf 9 = .ok (.iconst 1, 1) := by decide +kernel
theorem dX5_valueOf_10 : decode cX5_valueOf 10 = .ok (.if_icmp .ne 10, 3) := by decide +kernel
theorem dX5_valueOf_13 : decode cX5_valueOf 13 = .ok (.aload_n 0, 1) := by decide +kernel
theorem dX5_valueOf_14 : decode cX5_valueOf 14 = .ok (.getfield 15, 3) := by decide +kernel
theorem dX5_valueOf_17 : decode cX5_valueOf 17 = .ok (.goto 7, 3) := by decide +kernel
theorem dX5_valueOf_20 : decode cX5_valueOf 20 = .ok (.aload_n 0, 1) := by decide +kernel
theorem dX5_valueOf_21 : decode cX5_valueOf 21 = .ok (.getfield 19, 3) := by decide +kernel
theorem dX5_valueOf_24 : decode cX5_valueOf 24 = .ok (.istore 4, 2) := by decide +kernel
theorem dX5_valueOf_26 : decode cX5_valueOf 26 = .ok (.iload_n 1, 1) := by decide +kernel
theorem dX5_valueOf_27 : decode cX5_valueOf 27 = .ok (.ifCond .ne 10, 3) := by decide +kernel
theorem dX5_valueOf_30 : decode cX5_valueOf 30 = .ok (.aload_n 0, 1) := by decide +kernel
theorem dX5_valueOf_31 : decode cX5_valueOf 31 = .ok (.getfield 15, 3) := by decide +kernel
theorem dX5_valueOf_34 : decode cX5_valueOf 34 = .ok (.goto 20, 3) := by decide +kernel
theorem dX5_valueOf_37 : decode cX5_valueOf 37 = .ok (.iload_n 1, 1) := by decide +kernel
theorem dX5_valueOf_38 : decode cX5_valueOf 38 = .ok (.iconst 1, 1) := by decide +kernel
theorem dX5_valueOf_39 : decode cX5_valueOf 39 = .ok (.if_icmp .ne 10, 3) := by decide +kernel
theorem dX5_valueOf_42 : decode cX5_valueOf 42 = .ok (.aload_n 0, 1) := by decide +kernel
theorem dX5_valueOf_43 : decode cX5_valueOf 43 = .ok (.getfield 19, 3) := by decide +kernel
theorem dX5_valueOf_46 : decode cX5_valueOf 46 = .ok (.goto 8, 3) := by decide +kernel
theorem dX5_valueOf_49 : decode cX5_valueOf 49 = .ok (.aload_n 0, 1) := by decide +kernel
theorem dX5_valueOf_50 : decode cX5_valueOf 50 = .ok (.getfield 9, 3) := by decide +kernel
theorem dX5_valueOf_53 : decode cX5_valueOf 53 = .ok (.arraylength, 1) := by decide +kernel
theorem dX5_valueOf_54 : decode cX5_valueOf 54 = .ok (.istore 5, 2) := by decide +kernel
theorem dX5_valueOf_56 : decode cX5_valueOf 56 = .ok (.iconst 0, 1) := by decide +kernel
theorem dX5_valueOf_57 : decode cX5_valueOf 57 = .ok (.istore 6, 2) := by decide +kernel
theorem dX5_valueOf_59 : decode cX5_valueOf 59 = .ok (.iload 4, 2) := by decide +kernel
theorem dX5_valueOf_61 : decode cX5_valueOf 61 = .ok (.istore 7, 2) := by decide +kernel
theorem dX5_valueOf_63 : decode cX5_valueOf 63 = .ok (.iload 7, 2) := by decide +kernel
theorem dX5_valueOf_65 : decode cX5_valueOf 65 = .ok (.ifCond .lt 170, 3) := by decide +kernel
theorem dX5_valueOf_68 : decode cX5_valueOf 68 = .ok (.iload 7, 2) := by decide +kernel
theorem dX5_valueOf_70 : decode cX5_valueOf 70 = .ok (.iload 5, 2) := by decide +kernel
theorem dX5_valueOf_72 : decode cX5_valueOf 72 = .ok (.if_icmp .ge 163, 3) := by decide +kernel
theorem dX5_valueOf_75 : decode cX5_valueOf 75 = .ok (.iload 7, 2) := by decide +kernel
theorem dX5_valueOf_77 : decode cX5_valueOf 77 = .ok (.aload_n 0, 1) := by decide +kernel
theorem dX5_valueOf_78 : decode cX5_valueOf 78 = .ok (.getfield 9, 3) := by decide +kernel
theorem dX5_valueOf_81 : decode cX5_valueOf 81 = .ok (.arraylength, 1) := by decide +kernel
theorem dX5_valueOf_82 : decode cX5_valueOf 82 = .ok (.if_icmp .ge 153, 3) := by decide +kernel
theorem dX5_valueOf_85 : decode cX5_valueOf 85 = .ok (.aload_n 0, 1) := by decide +kernel
theorem dX5_valueOf_86 : decode cX5_valueOf 86 = .ok (.getfield 9, 3) := by decide +kernel
theorem dX5_valueOf_89 : decode cX5_valueOf 89 = .ok (.iload 7, 2) := by decide +kernel
theorem dX5_valueOf_91 : decode cX5_valueOf 91 = .ok (.iaload, 1) := by decide +kernel
theorem dX5_valueOf_92 : decode cX5_valueOf 92 = .ok (.istore 8, 2) := by decide +kernel
theorem dX5_valueOf_94 : decode cX5_valueOf 94 = .ok (.iload 8, 2) := by decide +kernel
theorem dX5_valueOf_96 : decode cX5_valueOf 96 = .ok (.aload_n 2, 1) := by decide +kernel
theorem dX5_valueOf_97 : decode cX5_valueOf 97 = .ok (.arraylength, 1) := by decide +kernel
theorem dX5_valueOf_98 : decode cX5_valueOf 98 = .ok (.ineg, 1) := by decide +kernel
theorem dX5_valueOf_99 : decode cX5_valueOf 99 = .ok (.if_icmp .lt 36, 3) := by decide +kernel
theorem dX5_valueOf_102 : decode cX5_valueOf 102 = .ok (.iload 6, 2) := by decide +kernel
theorem dX5_valueOf_104 : decode cX5_valueOf 104 = .ok (.aload_n 3, 1) := by decide +kernel
theorem dX5_valueOf_105 : decode cX5_valueOf 105 = .ok (.arraylength, 1) := by decide +kernel
theorem dX5_valueOf_106 : decode cX5_valueOf 106 = .ok (.if_icmp .ge 123, 3) := by decide +kernel
theorem dX5_valueOf_109 : decode cX5_valueOf 109 = .ok (.aload_n 3, 1) := by decide +kernel
theorem dX5_valueOf_110 : decode cX5_valueOf 110 = .ok (.iload 6, 2) := by decide +kernel
theorem dX5_valueOf_112 : decode cX5_valueOf 112 = .ok (.iload 8, 2) := by decide +kernel
theorem dX5_valueOf_114 : decode cX5_valueOf 114 = .ok (.ifCond .lt 8, 3) := by decide +kernel
theorem dX5_valueOf_117 : decode cX5_valueOf 117 = .ok (.iload 8, 2) := by decide +kernel
theorem dX5_valueOf_119 : decode cX5_valueOf 119 = .ok (.goto 9, 3) := by decide +kernel
theorem dX5_valueOf_122 : decode cX5_valueOf 122 = .ok (.aload_n 2, 1) := by decide +kernel
theorem dX5_valueOf_123 : decode cX5_valueOf 123 = .ok (.iconst (-1), 1) := by decide +kernel
theorem dX5_valueOf_124 : decode cX5_valueOf 124 = .ok (.iload 8, 2) := by decide +kernel
theorem dX5_valueOf_126 : decode cX5_valueOf 126 = .ok (.isub, 1) := by decide +kernel
theorem dX5_valueOf_127 : decode cX5_valueOf 127 = .ok (.iaload, 1) := by decide +kernel
theorem dX5_valueOf_128 : decode cX5_valueOf 128 = .ok (.iastore, 1) := by decide +kernel
theorem dX5_valueOf_129 : decode cX5_valueOf 129 = .ok (.iinc 6 1, 3) := by decide +kernel
theorem dX5_valueOf_132 : decode cX5_valueOf 132 = .ok (.goto 97, 3) := by decide +kernel
theorem dX5_valueOf_135 : decode cX5_valueOf 135 = .ok (.iload 8, 2) := by decide +kernel
theorem dX5_valueOf_137 : decode cX5_valueOf 137 = .ok (.bipush (-100), 2) := by decide +kernel
theorem dX5_valueOf_139 : decode cX5_valueOf 139 = .ok (.if_icmp .eq 10, 3) := by decide +kernel
theorem dX5_valueOf_142 : decode cX5_valueOf 142 = .ok (.iload 8, 2) := by decide +kernel
theorem dX5_valueOf_144 : decode cX5_valueOf 144 = .ok (.bipush (-11), 2) := by decide +kernel
theorem dX5_valueOf_146 : decode cX5_valueOf 146 = .ok (.if_icmp .ne 52, 3) := by decide +kernel
theorem dX5_valueOf_149 : decode cX5_valueOf 149 = .ok (.iload 6, 2) := by decide +kernel
theorem dX5_valueOf_151 : decode cX5_valueOf 151 = .ok (.iconst 1, 1) := by decide +kernel
theorem dX5_valueOf_152 : decode cX5_valueOf 152 = .ok (.if_icmp .lt 77, 3) := by decide +kernel
theorem dX5_valueOf_155 : decode cX5_valueOf 155 = .ok (.aload_n 3, 1) := by decide +kernel
theorem dX5_valueOf_156 : decode cX5_valueOf 156 = .ok (.iload 6, 2) := by decide +kernel
theorem dX5_valueOf_158 : decode cX5_valueOf 158 = .ok (.iconst 1, 1) := by decide +kernel
theorem dX5_valueOf_159 : decode cX5_valueOf 159 = .ok (.isub, 1) := by decide +kernel
theorem dX5_valueOf_160 : decode cX5_valueOf 160 = .ok (.iaload, 1) := by decide +kernel
theorem dX5_valueOf_161 : decode cX5_valueOf 161 = .ok (.istore 9, 2) := by decide +kernel
theorem dX5_valueOf_163 : decode cX5_valueOf 163 = .ok (.aload_n 3, 1) := by decide +kernel
theorem dX5_valueOf_164 : decode cX5_valueOf 164 = .ok (.iload 6, 2) := by decide +kernel
theorem dX5_valueOf_166 : decode cX5_valueOf 166 = .ok (.iconst 1, 1) := by decide +kernel
theorem dX5_valueOf_167 : decode cX5_valueOf 167 = .ok (.isub, 1) := by decide +kernel
theorem dX5_valueOf_168 : decode cX5_valueOf 168 = .ok (.iload 8, 2) := by decide +kernel
theorem dX5_valueOf_170 : decode cX5_valueOf 170 = .ok (.bipush (-100), 2) := by decide +kernel
end
section
theorem dX5_valueOf_172 : decode cX5_valueOf 172 = .ok (.if_icmp .ne 9, 3) := by decide +kernel
theorem dX5_valueOf_175 : decode cX5_valueOf 175 = .ok (.iload 9, 2) := by decide +kernel
theorem dX5_valueOf_177 : decode cX5_valueOf 177 = .ok (.ineg, 1) := by decide +kernel
theorem dX5_valueOf_178 : decode cX5_valueOf 178 = .ok (.goto 16, 3) := by decide +kernel
theorem dX5_valueOf_181 : decode cX5_valueOf 181 = .ok (.iload 9, 2) := by decide +kernel
theorem dX5_valueOf_183 : decode cX5_valueOf 183 = .ok (.ifCond .ne 7, 3) := by decide +kernel
theorem dX5_valueOf_186 : decode cX5_valueOf 186 = .ok (.iconst 1, 1) := by decide +kernel
theorem dX5_valueOf_187 : decode cX5_valueOf 187 = .ok (.goto 4, 3) := by decide +kernel
theorem dX5_valueOf_190 : decode cX5_valueOf 190 = .ok (.iconst 0, 1) := by decide +kernel
theorem dX5_valueOf_191 : decode cX5_valueOf 191 = .ok (.invokestatic 24, 3) := by decide +kernel
theorem dX5_valueOf_194 : decode cX5_valueOf 194 = .ok (.iastore, 1) := by decide +kernel
theorem dX5_valueOf_195 : decode cX5_valueOf 195 = .ok (.goto 34, 3) := by decide +kernel
theorem dX5_valueOf_198 : decode cX5_valueOf 198 = .ok (.iload 6, 2) := by decide +kernel
theorem dX5_valueOf_200 : decode cX5_valueOf 200 = .ok (.iconst 2, 1) := by decide +kernel
theorem dX5_valueOf_201 : decode cX5_valueOf 201 = .ok (.if_icmp .lt 28, 3) := by decide +kernel
theorem dX5_valueOf_204 : decode cX5_valueOf 204 = .ok (.iinc 6 (-1), 3) := by decide +kernel
theorem dX5_valueOf_207 : decode cX5_valueOf 207 = .ok (.aload_n 3, 1) := by decide +kernel
theorem dX5_valueOf_208 : decode cX5_valueOf 208 = .ok (.iload 6, 2) := by decide +kernel
theorem dX5_valueOf_210 : decode cX5_valueOf 210 = .ok (.iconst 1, 1) := by decide +kernel
theorem dX5_valueOf_211 : decode cX5_valueOf 211 = .ok (.isub, 1) := by decide +kernel
theorem dX5_valueOf_212 : decode cX5_valueOf 212 = .ok (.iload 8, 2) := by decide +kernel
theorem dX5_valueOf_214 : decode cX5_valueOf 214 = .ok (.ineg, 1) := by decide +kernel
theorem dX5_valueOf_215 : decode cX5_valueOf 215 = .ok (.aload_n 3, 1) := by decide +kernel
theorem dX5_valueOf_216 : decode cX5_valueOf 216 = .ok (.iload 6, 2) := by decide +kernel
theorem dX5_valueOf_218 : decode cX5_valueOf 218 = .ok (.iconst 1, 1) := by decide +kernel
theorem dX5_valueOf_219 : decode cX5_valueOf 219 = .ok (.isub, 1) := by decide +kernel
theorem dX5_valueOf_220 : decode cX5_valueOf 220 = .ok (.iaload, 1) := by decide +kernel
theorem dX5_valueOf_221 : decode cX5_valueOf 221 = .ok (.aload_n 3, 1) := by decide +kernel
theorem dX5_valueOf_222 : decode cX5_valueOf 222 = .ok (.iload 6, 2) := by decide +kernel
theorem dX5_valueOf_224 : decode cX5_valueOf 224 = .ok (.iaload, 1) := by decide +kernel
theorem dX5_valueOf_225 : decode cX5_valueOf 225 = .ok (.invokestatic 28, 3) := by decide +kernel
theorem dX5_valueOf_228 : decode cX5_valueOf 228 = .ok (.iastore, 1) := by decide +kernel
theorem dX5_valueOf_229 : decode cX5_valueOf 229 = .ok (.iinc 7 1, 3) := by decide +kernel
theorem dX5_valueOf_232 : decode cX5_valueOf 232 = .ok (.goto (-169), 3) := by decide +kernel
theorem dX5_valueOf_235 : decode cX5_valueOf 235 = .ok (.iload 6, 2) := by decide +kernel
theorem dX5_valueOf_237 : decode cX5_valueOf 237 = .ok (.ifCond .le 12, 3) := by decide +kernel
theorem dX5_valueOf_240 : decode cX5_valueOf 240 = .ok (.aload_n 3, 1) := by decide +kernel
theorem dX5_valueOf_241 : decode cX5_valueOf 241 = .ok (.iload 6, 2) := by decide +kernel
theorem dX5_valueOf_243 : decode cX5_valueOf 243 = .ok (.iconst 1, 1) := by decide +kernel
theorem dX5_valueOf_244 : decode cX5_valueOf 244 = .ok (.isub, 1) := by decide +kernel
theorem dX5_valueOf_245 : decode cX5_valueOf 245 = .ok (.iaload, 1) := by decide +kernel
theorem dX5_valueOf_246 : decode cX5_valueOf 246 = .ok (.goto 4, 3) := by decide +kernel
theorem dX5_valueOf_249 : decode cX5_valueOf 249 = .ok (.iconst 0, 1) := by decide +kernel
theorem dX5_valueOf_250 : decode cX5_valueOf 250 = .ok (.ireturn, 1) := by decide +kernel
theorem dX5_joined_0 : decode cX5_joined 0 = .ok (.iload_n 0, 1) := by decide +kernel
theorem dX5_joined_1 : decode cX5_joined 1 = .ok (.lookupswitch 129 #[(9, 59), (10, 76), (43, 121), (45, 125), (60, 93), (61, 107)], 59) := by decide +kernel
theorem dX5_joined_60 : decode cX5_joined 60 = .ok (.iload_n 1, 1) := by decide +kernel
theorem dX5_joined_61 : decode cX5_joined 61 = .ok (.ifCond .ne 7, 3) := by decide +kernel
theorem dX5_joined_64 : decode cX5_joined 64 = .ok (.iload_n 2, 1) := by decide +kernel
theorem dX5_joined_65 : decode cX5_joined 65 = .ok (.ifCond .eq 7, 3) := by decide +kernel
theorem dX5_joined_68 : decode cX5_joined 68 = .ok (.iconst 1, 1) := by decide +kernel
theorem dX5_joined_69 : decode cX5_joined 69 = .ok (.goto 4, 3) := by decide +kernel
theorem dX5_joined_72 : decode cX5_joined 72 = .ok (.iconst 0, 1) := by decide +kernel
theorem dX5_joined_73 : decode cX5_joined 73 = .ok (.invokestatic 24, 3) := by decide +kernel
theorem dX5_joined_76 : decode cX5_joined 76 = .ok (.ireturn, 1) := by decide +kernel
theorem dX5_joined_77 : decode cX5_joined 77 = .ok (.iload_n 1, 1) := by decide +kernel
theorem dX5_joined_78 : decode cX5_joined 78 = .ok (.ifCond .eq 11, 3) := by decide +kernel
theorem dX5_joined_81 : decode cX5_joined 81 = .ok (.iload_n 2, 1) := by decide +kernel
theorem dX5_joined_82 : decode cX5_joined 82 = .ok (.ifCond .eq 7, 3) := by decide +kernel
theorem dX5_joined_85 : decode cX5_joined 85 = .ok (.iconst 1, 1) := by decide +kernel
theorem dX5_joined_86 : decode cX5_joined 86 = .ok (.goto 4, 3) := by decide +kernel
theorem dX5_joined_89 : decode cX5_joined 89 = .ok (.iconst 0, 1) := by decide +kernel
theorem dX5_joined_90 : decode cX5_joined 90 = .ok (.invokestatic 24, 3) := by decide +kernel
theorem dX5_joined_93 : decode cX5_joined 93 = .ok (.ireturn, 1) := by decide +kernel
theorem dX5_joined_94 : decode cX5_joined 94 = .ok (.iload_n 1, 1) := by decide +kernel
theorem dX5_joined_95 : decode cX5_joined 95 = .ok (.iload_n 2, 1) := by decide +kernel
theorem dX5_joined_96 : decode cX5_joined 96 = .ok (.if_icmp .ge 7, 3) := by decide +kernel
theorem dX5_joined_99 : decode cX5_joined 99 = .ok (.iconst 1, 1) := by decide +kernel
theorem dX5_joined_100 : decode cX5_joined 100 = .ok (.goto 4, 3) := by decide +kernel
theorem dX5_joined_103 : decode cX5_joined 103 = .ok (.iconst 0, 1) := by decide +kernel
theorem dX5_joined_104 : decode cX5_joined 104 = .ok (.invokestatic 24, 3) := by decide +kernel
theorem dX5_joined_107 : decode cX5_joined 107 = .ok (.ireturn, 1) := by decide +kernel
theorem dX5_joined_108 : decode cX5_joined 108 = .ok (.iload_n 1, 1) := by decide +kernel
theorem dX5_joined_109 : decode cX5_joined 109 = .ok (.iload_n 2, 1) := by decide +kernel
theorem dX5_joined_110 : decode cX5_joined 110 = .ok (.if_icmp .ne 7, 3) := by decide +kernel
theorem dX5_joined_113 : decode cX5_joined 113 = .ok (.iconst 1, 1) := by decide +kernel
theorem dX5_joined_114 : decode cX5_joined 114 = .ok (.goto 4, 3) := by decide +kernel
theorem dX5_joined_117 : decode cX5_joined 117 = .ok (.iconst 0, 1) := by decide +kernel
theorem dX5_joined_118 : decode cX5_joined 118 = .ok (.invokestatic 24, 3) := by decide +kernel
theorem dX5_joined_121 : decode cX5_joined 121 = .ok (.ireturn, 1) := by decide +kernel
theorem dX5_joined_122 : decode cX5_joined 122 = .ok (.iload_n 1, 1) := by decide +kernel
theorem dX5_joined_123 : decode cX5_joined 123 = .ok (.iload_n 2, 1) := by decide +kernel
theorem dX5_joined_124 : decode cX5_joined 124 = .ok (.iadd, 1) := by decide +kernel
theorem dX5_joined_125 : decode cX5_joined 125 = .ok (.ireturn, 1) := by decide +kernel
theorem dX5_joined_126 : decode cX5_joined 126 = .ok (.iload_n 1, 1) := by decide +kernel
theorem dX5_joined_127 : decode cX5_joined 127 = .ok (.iload_n 2, 1) := by decide +kernel
theorem dX5_joined_128 : decode cX5_joined 128 = .ok (.isub, 1) := by decide +kernel
theorem dX5_joined_129 : decode cX5_joined 129 = .ok (.ireturn, 1) := by decide +kernel
theorem dX5_joined_130 : decode cX5_joined 130 = .ok (.iload_n 1, 1) := by decide +kernel
theorem dX5_joined_131 : decode cX5_joined 131 = .ok (.iload_n 2, 1) := by decide +kernel
theorem dX5_joined_132 : decode cX5_joined 132 = .ok (.imul, 1) := by decide +kernel
theorem dX5_joined_133 : decode cX5_joined 133 = .ok (.ireturn, 1) := by decide +kernel
theorem dX5_truth_0 : decode cX5_truth 0 = .ok (.iload_n 0, 1) := by decide +kernel
theorem dX5_truth_1 : decode cX5_truth 1 = .ok (.ifCond .eq 7, 3) := by decide +kernel
theorem dX5_truth_4 : decode cX5_truth 4 = .ok (.iconst 1, 1) := by decide +kernel
theorem dX5_truth_5 : decode cX5_truth 5 = .ok (.goto 4, 3) := by decide +kernel
theorem dX5_truth_8 : decode cX5_truth 8 = .ok (.iconst 0, 1) := by decide +kernel
theorem dX5_truth_9 : decode cX5_truth 9 = .ok (.ireturn, 1) := by decide +kernel
theorem dX6_init_0 : decode cX6_init 0 = .ok (.aload_n 0, 1) := by decide +kernel
theorem dX6_init_1 : decode cX6_init 1 = .ok (.invokespecial 3, 3) := by decide +kernel
theorem dX6_init_4 : decode cX6_init 4 = .ok (.aload_n 0, 1) := by decide +kernel
theorem dX6_init_5 : decode cX6_init 5 = .ok (.bipush 40, 2) := by decide +kernel
theorem dX6_init_7 : decode cX6_init 7 = .ok (.newarray .int, 2) := by decide +kernel
theorem dX6_init_9 : decode cX6_init 9 = .ok (.putfield 9, 3) := by decide +kernel
theorem dX6_init_12 : decode cX6_init 12 = .ok (.aload_n 0, 1) := by decide +kernel
theorem dX6_init_13 : decode cX6_init 13 = .ok (.iconst (-1), 1) := by decide +kernel
theorem dX6_init_14 : decode cX6_init 14 = .ok (.putfield 15, 3) := by decide +kernel
theorem dX6_init_17 : decode cX6_init 17 = .ok (.return_, 1) := by decide +kernel
theorem dX6_become_0 : decode cX6_become 0 = .ok (.aload_n 0, 1) := by decide +kernel
theorem dX6_become_1 : decode cX6_become 1 = .ok (.getfield 9, 3) := by decide +kernel
theorem dX6_become_4 : decode cX6_become 4 = .ok (.iconst 0, 1) := by decide +kernel
theorem dX6_become_5 : decode cX6_become 5 = .ok (.invokestatic 19, 3) := by decide +kernel
theorem dX6_become_8 : decode cX6_become 8 = .ok (.aload_n 0, 1) := by decide +kernel
theorem dX6_become_9 : decode cX6_become 9 = .ok (.iload_n 1, 1) := by decide +kernel
theorem dX6_become_10 : decode cX6_become 10 = .ok (.putfield 15, 3) := by decide +kernel
theorem dX6_become_13 : decode cX6_become 13 = .ok (.aload_n 0, 1) := by decide +kernel
theorem dX6_become_14 : decode cX6_become 14 = .ok (.iload_n 2, 1) := by decide +kernel
theorem dX6_become_15 : decode cX6_become 15 = .ok (.putfield 25, 3) := by decide +kernel
theorem dX6_become_18 : decode cX6_become 18 = .ok (.return_, 1) := by decide +kernel
theorem dX6_cut_0 : decode cX6_cut 0 = .ok (.aload_n 0, 1) := by decide +kernel
theorem dX6_cut_1 : decode cX6_cut 1 = .ok (.getfield 15, 3) := by decide +kernel
theorem dX6_cut_4 : decode cX6_cut 4 = .ok (.ifCond .ne 8, 3) := by decide +kernel
theorem dX6_cut_7 : decode cX6_cut 7 = .ok (.iload_n 1, 1) := by decide +kernel
theorem dX6_cut_8 : decode cX6_cut 8 = .ok (.i2b, 1) := by decide +kernel
theorem dX6_cut_9 : decode cX6_cut 9 = .ok (.goto 17, 3) := by decide +kernel
theorem dX6_cut_12 : decode cX6_cut 12 = .ok (.aload_n 0, 1) := by decide +kernel
theorem dX6_cut_13 : decode cX6_cut 13 = .ok (.getfield 15, 3) := by decide +kernel
theorem dX6_cut_16 : decode cX6_cut 16 = .ok (.iconst 1, 1) := by decide +kernel
theorem dX6_cut_17 : decode cX6_cut 17 = .ok (.if_icmp .ne 8, 3) := by decide +kernel
theorem dX6_cut_20 : decode cX6_cut 20 = .ok (.iload_n 1, 1) := by decide +kernel
theorem dX6_cut_21 : decode cX6_cut 21 = .ok (.i2s, 1) := by decide +kernel
theorem dX6_cut_22 : decode cX6_cut 22 = .ok (.goto 4, 3) := by decide +kernel
theorem dX6_cut_25 : decode cX6_cut 25 = .ok (.iload_n 1, 1) := by decide +kernel
theorem dX6_cut_26 : decode cX6_cut 26 = .ok (.ireturn, 1) := by decide +kernel
theorem dX6_has_0 : decode cX6_has 0 = .ok (.iload_n 1, 1) := by decide +kernel
theorem dX6_has_1 : decode cX6_has 1 = .ok (.ifCond .lt 21, 3) := by decide +kernel
theorem dX6_has_4 : decode cX6_has 4 = .ok (.iload_n 2, 1) := by decide +kernel
theorem dX6_has_5 : decode cX6_has 5 = .ok (.ifCond .lt 17, 3) := by decide +kernel
theorem dX6_has_8 : decode cX6_has 8 = .ok (.iload_n 1, 1) := by decide +kernel
theorem dX6_has_9 : decode cX6_has 9 = .ok (.aload_n 0, 1) := by decide +kernel
theorem dX6_has_10 : decode cX6_has 10 = .ok (.getfield 25, 3) := by decide +kernel
theorem dX6_has_13 : decode cX6_has 13 = .ok (.iload_n 2, 1) := by decide +kernel
theorem dX6_has_14 : decode cX6_has 14 = .ok (.isub, 1) := by decide +kernel
theorem dX6_has_15 : decode cX6_has 15 = .ok (.if_icmp .gt 7, 3) := by decide +kernel
theorem dX6_has_18 : decode cX6_has 18 = .ok (.iconst 1, 1) := by decide +kernel
theorem dX6_has_19 : decode cX6_has 19 = .ok (.goto 4, 3) := by decide +kernel
theorem dX6_has_22 : decode cX6_has 22 = .ok (.iconst 0, 1) := by decide +kernel
theorem dX6_has_23 : decode cX6_has 23 = .ok (.ireturn, 1) := by decide +kernel
theorem dX7_init_0 : decode cX7_init 0 = .ok (.aload_n 0, 1) := by decide +kernel
theorem dX7_init_1 : decode cX7_init 1 = .ok (.invokespecial 1, 3) := by decide +kernel
theorem dX7_init_4 : decode cX7_init 4 = .ok (.return_, 1) := by decide +kernel
theorem dX7_judge_0 : decode cX7_judge 0 = .ok (.aload_n 0, 1) := by decide +kernel
theorem dX7_judge_1 : decode cX7_judge 1 = .ok (.dup, 1) := by decide +kernel
theorem dX7_judge_2 : decode cX7_judge 2 = .ok (.getfield 7, 3) := by decide +kernel
theorem dX7_judge_5 : decode cX7_judge 5 = .ok (.iconst 1, 1) := by decide +kernel
theorem dX7_judge_6 : decode cX7_judge 6 = .ok (.iadd, 1) := by decide +kernel
theorem dX7_judge_7 : decode cX7_judge 7 = .ok (.putfield 7, 3) := by decide +kernel
theorem dX7_judge_10 : decode cX7_judge 10 = .ok (.iload_n 3, 1) := by decide +kernel
theorem dX7_judge_11 : decode cX7_judge 11 = .ok (.ifCond .ne 36, 3) := by decide +kernel
theorem dX7_judge_14 : decode cX7_judge 14 = .ok (.aload_n 0, 1) := by decide +kernel
theorem dX7_judge_15 : decode cX7_judge 15 = .ok (.dup, 1) := by decide +kernel
theorem dX7_judge_16 : decode cX7_judge 16 = .ok (.getfield 13, 3) := by decide +kernel
theorem dX7_judge_19 : decode cX7_judge 19 = .ok (.iconst 1, 1) := by decide +kernel
theorem dX7_judge_20 : decode cX7_judge 20 = .ok (.iadd, 1) := by decide +kernel
theorem dX7_judge_21 : decode cX7_judge 21 = .ok (.putfield 13, 3) := by decide +kernel
theorem dX7_judge_24 : decode cX7_judge 24 = .ok (.aload_n 0, 1) := by decide +kernel
theorem dX7_judge_25 : decode cX7_judge 25 = .ok (.dup, 1) := by decide +kernel
theorem dX7_judge_26 : decode cX7_judge 26 = .ok (.getfield 16, 3) := by decide +kernel
theorem dX7_judge_29 : decode cX7_judge 29 = .ok (.iload 4, 2) := by decide +kernel
theorem dX7_judge_31 : decode cX7_judge 31 = .ok (.iload_n 1, 1) := by decide +kernel
theorem dX7_judge_32 : decode cX7_judge 32 = .ok (.if_icmp .ne 7, 3) := by decide +kernel
theorem dX7_judge_35 : decode cX7_judge 35 = .ok (.iconst 1, 1) := by decide +kernel
theorem dX7_judge_36 : decode cX7_judge 36 = .ok (.goto 4, 3) := by decide +kernel
theorem dX7_judge_39 : decode cX7_judge 39 = .ok (.iconst 0, 1) := by decide +kernel
theorem dX7_judge_40 : decode cX7_judge 40 = .ok (.iadd, 1) := by decide +kernel
theorem dX7_judge_41 : decode cX7_judge 41 = .ok (.putfield 16, 3) := by decide +kernel
theorem dX7_judge_44 : decode cX7_judge 44 = .ok (.goto 38, 3) := by decide +kernel
theorem dX7_judge_47 : decode cX7_judge 47 = .ok (.iload_n 1, 1) := by decide +kernel
theorem dX7_judge_48 : decode cX7_judge 48 = .ok (.iload_n 2, 1) := by decide +kernel
theorem dX7_judge_49 : decode cX7_judge 49 = .ok (.if_icmp .eq 33, 3) := by decide +kernel
theorem dX7_judge_52 : decode cX7_judge 52 = .ok (.aload_n 0, 1) := by decide +kernel
theorem dX7_judge_53 : decode cX7_judge 53 = .ok (.dup, 1) := by decide +kernel
theorem dX7_judge_54 : decode cX7_judge 54 = .ok (.getfield 19, 3) := by decide +kernel
theorem dX7_judge_57 : decode cX7_judge 57 = .ok (.iconst 1, 1) := by decide +kernel
theorem dX7_judge_58 : decode cX7_judge 58 = .ok (.iadd, 1) := by decide +kernel
theorem dX7_judge_59 : decode cX7_judge 59 = .ok (.putfield 19, 3) := by decide +kernel
theorem dX7_judge_62 : decode cX7_judge 62 = .ok (.aload_n 0, 1) := by decide +kernel
theorem dX7_judge_63 : decode cX7_judge 63 = .ok (.dup, 1) := by decide +kernel
theorem dX7_judge_64 : decode cX7_judge 64 = .ok (.getfield 22, 3) := by decide +kernel
theorem dX7_judge_67 : decode cX7_judge 67 = .ok (.iload 4, 2) := by decide +kernel
theorem dX7_judge_69 : decode cX7_judge 69 = .ok (.iload_n 2, 1) := by decide +kernel
theorem dX7_judge_70 : decode cX7_judge 70 = .ok (.if_icmp .ne 7, 3) := by decide +kernel
theorem dX7_judge_73 : decode cX7_judge 73 = .ok (.iconst 1, 1) := by decide +kernel
theorem dX7_judge_74 : decode cX7_judge 74 = .ok (.goto 4, 3) := by decide +kernel
theorem dX7_judge_77 : decode cX7_judge 77 = .ok (.iconst 0, 1) := by decide +kernel
theorem dX7_judge_78 : decode cX7_judge 78 = .ok (.iadd, 1) := by decide +kernel
theorem dX7_judge_79 : decode cX7_judge 79 = .ok (.putfield 22, 3) := by decide +kernel
theorem dX7_judge_82 : decode cX7_judge 82 = .ok (.return_, 1) := by decide +kernel
theorem dX8_init_0 : decode cX8_init 0 = .ok (.aload_n 0, 1) := by decide +kernel
theorem dX8_init_1 : decode cX8_init 1 = .ok (.invokespecial 1, 3) := by decide +kernel
theorem dX8_init_4 : decode cX8_init 4 = .ok (.aload_n 0, 1) := by decide +kernel
theorem dX8_init_5 : decode cX8_init 5 = .ok (.iload_n 1, 1) := by decide +kernel
theorem dX8_init_6 : decode cX8_init 6 = .ok (.putfield 7, 3) := by decide +kernel
theorem dX8_init_9 : decode cX8_init 9 = .ok (.aload_n 0, 1) := by decide +kernel
theorem dX8_init_10 : decode cX8_init 10 = .ok (.iload_n 2, 1) := by decide +kernel
theorem dX8_init_11 : decode cX8_init 11 = .ok (.putfield 13, 3) := by decide +kernel
theorem dX8_init_14 : decode cX8_init 14 = .ok (.aload_n 0, 1) := by decide +kernel
theorem dX8_init_15 : decode cX8_init 15 = .ok (.iload_n 3, 1) := by decide +kernel
theorem dX8_init_16 : decode cX8_init 16 = .ok (.putfield 16, 3) := by decide +kernel
theorem dX8_init_19 : decode cX8_init 19 = .ok (.aload_n 0, 1) := by decide +kernel
theorem dX8_init_20 : decode cX8_init 20 = .ok (.iload 4, 2) := by decide +kernel
theorem dX8_init_22 : decode cX8_init 22 = .ok (.putfield 19, 3) := by decide +kernel
theorem dX8_init_25 : decode cX8_init 25 = .ok (.aload_n 0, 1) := by decide +kernel
theorem dX8_init_26 : decode cX8_init 26 = .ok (.iload 5, 2) := by decide +kernel
theorem dX8_init_28 : decode cX8_init 28 = .ok (.putfield 22, 3) := by decide +kernel
theorem dX8_init_31 : decode cX8_init 31 = .ok (.return_, 1) := by decide +kernel
theorem dX8_taste_0 : decode cX8_taste 0 = .ok (.iload_n 1, 1) := by decide +kernel
theorem dX8_taste_1 : decode cX8_taste 1 = .ok (.ifCond .ne 14, 3) := by decide +kernel
theorem dX8_taste_4 : decode cX8_taste 4 = .ok (.aload_n 0, 1) := by decide +kernel
theorem dX8_taste_5 : decode cX8_taste 5 = .ok (.getfield 22, 3) := by decide +kernel
theorem dX8_taste_8 : decode cX8_taste 8 = .ok (.sipush 10000, 3) := by decide +kernel
theorem dX8_taste_11 : decode cX8_taste 11 = .ok (.idiv, 1) := by decide +kernel
theorem dX8_taste_12 : decode cX8_taste 12 = .ok (.goto 28, 3) := by decide +kernel
theorem dX8_taste_15 : decode cX8_taste 15 = .ok (.iload_n 1, 1) := by decide +kernel
theorem dX8_taste_16 : decode cX8_taste 16 = .ok (.iconst 1, 1) := by decide +kernel
theorem dX8_taste_17 : decode cX8_taste 17 = .ok (.if_icmp .ne 16, 3) := by decide +kernel
theorem dX8_taste_20 : decode cX8_taste 20 = .ok (.aload_n 0, 1) := by decide +kernel
theorem dX8_taste_21 : decode cX8_taste 21 = .ok (.getfield 22, 3) := by decide +kernel
theorem dX8_taste_24 : decode cX8_taste 24 = .ok (.bipush 100, 2) := by decide +kernel
theorem dX8_taste_26 : decode cX8_taste 26 = .ok (.idiv, 1) := by decide +kernel
theorem dX8_taste_27 : decode cX8_taste 27 = .ok (.bipush 100, 2) := by decide +kernel
theorem dX8_taste_29 : decode cX8_taste 29 = .ok (.irem, 1) := by decide +kernel
theorem dX8_taste_30 : decode cX8_taste 30 = .ok (.goto 10, 3) := by decide +kernel
theorem dX8_taste_33 : decode cX8_taste 33 = .ok (.aload_n 0, 1) := by decide +kernel
theorem dX8_taste_34 : decode cX8_taste 34 = .ok (.getfield 22, 3) := by decide +kernel
theorem dX8_taste_37 : decode cX8_taste 37 = .ok (.bipush 100, 2) := by decide +kernel
theorem dX8_taste_39 : decode cX8_taste 39 = .ok (.irem, 1) := by decide +kernel
theorem dX8_taste_40 : decode cX8_taste 40 = .ok (.ireturn, 1) := by decide +kernel
theorem dX8_remaining_0 : decode cX8_remaining 0 = .ok (.iconst 0, 1) := by decide +kernel
theorem dX8_remaining_1 : decode cX8_remaining 1 = .ok (.aload_n 0, 1) := by decide +kernel
theorem dX8_remaining_2 : decode cX8_remaining 2 = .ok (.getfield 16, 3) := by decide +kernel
theorem dX8_remaining_5 : decode cX8_remaining 5 = .ok (.aload_n 0, 1) := by decide +kernel
theorem dX8_remaining_6 : decode cX8_remaining 6 = .ok (.getfield 25, 3) := by decide +kernel
theorem dX8_remaining_9 : decode cX8_remaining 9 = .ok (.isub, 1) := by decide +kernel
theorem dX8_remaining_10 : decode cX8_remaining 10 = .ok (.invokestatic 28, 3) := by decide +kernel
theorem dX8_remaining_13 : decode cX8_remaining 13 = .ok (.ireturn, 1) := by decide +kernel
theorem dX9_init_0 : decode cX9_init 0 = .ok (.aload_n 0, 1) := by decide +kernel
theorem dX9_init_1 : decode cX9_init 1 = .ok (.invokespecial 1, 3) := by decide +kernel
theorem dX9_init_4 : decode cX9_init 4 = .ok (.aload_n 0, 1) := by decide +kernel
theorem dX9_init_5 : decode cX9_init 5 = .ok (.bipush 8, 2) := by decide +kernel
theorem dX9_init_7 : decode cX9_init 7 = .ok (.anewarray 9, 3) := by decide +kernel
theorem dX9_init_10 : decode cX9_init 10 = .ok (.putfield 11, 3) := by decide +kernel
theorem dX9_init_13 : decode cX9_init 13 = .ok (.aload_n 0, 1) := by decide +kernel
theorem dX9_init_14 : decode cX9_init 14 = .ok (.bipush 24, 2) := by decide +kernel
theorem dX9_init_16 : decode cX9_init 16 = .ok (.anewarray 15, 3) := by decide +kernel
theorem dX9_init_19 : decode cX9_init 19 = .ok (.putfield 17, 3) := by decide +kernel
theorem dX9_init_22 : decode cX9_init 22 = .ok (.aload_n 0, 1) := by decide +kernel
theorem dX9_init_23 : decode cX9_init 23 = .ok (.bipush 6, 2) := by decide +kernel
theorem dX9_init_25 : decode cX9_init 25 = .ok (.anewarray 21, 3) := by decide +kernel
theorem dX9_init_28 : decode cX9_init 28 = .ok (.putfield 23, 3) := by decide +kernel
theorem dX9_init_31 : decode cX9_init 31 = .ok (.aload_n 0, 1) := by decide +kernel
theorem dX9_init_32 : decode cX9_init 32 = .ok (.new 27, 3) := by decide +kernel
theorem dX9_init_35 : decode cX9_init 35 = .ok (.dup, 1) := by decide +kernel
theorem dX9_init_36 : decode cX9_init 36 = .ok (.invokespecial 29, 3) := by decide +kernel
theorem dX9_init_39 : decode cX9_init 39 = .ok (.putfield 30, 3) := by decide +kernel
theorem dX9_init_42 : decode cX9_init 42 = .ok (.aload_n 0, 1) := by decide +kernel
theorem dX9_init_43 : decode cX9_init 43 = .ok (.new 34, 3) := by decide +kernel
theorem dX9_init_46 : decode cX9_init 46 = .ok (.dup, 1) := by decide +kernel
theorem dX9_init_47 : decode cX9_init 47 = .ok (.invokespecial 36, 3) := by decide +kernel
theorem dX9_init_50 : decode cX9_init 50 = .ok (.putfield 37, 3) := by decide +kernel
theorem dX9_init_53 : decode cX9_init 53 = .ok (.aload_n 0, 1) := by decide +kernel
theorem dX9_init_54 : decode cX9_init 54 = .ok (.new 41, 3) := by decide +kernel
theorem dX9_init_57 : decode cX9_init 57 = .ok (.dup, 1) := by decide +kernel
theorem dX9_init_58 : decode cX9_init 58 = .ok (.invokespecial 43, 3) := by decide +kernel
theorem dX9_init_61 : decode cX9_init 61 = .ok (.putfield 44, 3) := by decide +kernel
theorem dX9_init_64 : decode cX9_init 64 = .ok (.aload_n 0, 1) := by decide +kernel
theorem dX9_init_65 : decode cX9_init 65 = .ok (.bipush 6, 2) := by decide +kernel
theorem dX9_init_67 : decode cX9_init 67 = .ok (.anewarray 48, 3) := by decide +kernel
theorem dX9_init_70 : decode cX9_init 70 = .ok (.putfield 50, 3) := by decide +kernel
theorem dX9_init_73 : decode cX9_init 73 = .ok (.aload_n 0, 1) := by decide +kernel
theorem dX9_init_74 : decode cX9_init 74 = .ok (.iconst 4, 1) := by decide +kernel
theorem dX9_init_75 : decode cX9_init 75 = .ok (.anewarray 54, 3) := by decide +kernel
theorem dX9_init_78 : decode cX9_init 78 = .ok (.putfield 56, 3) := by decide +kernel
theorem dX9_init_81 : decode cX9_init 81 = .ok (.aload_n 0, 1) := by decide +kernel
theorem dX9_init_82 : decode cX9_init 82 = .ok (.new 60, 3) := by decide +kernel
theorem dX9_init_85 : decode cX9_init 85 = .ok (.dup, 1) := by decide +kernel
theorem dX9_init_86 : decode cX9_init 86 = .ok (.invokespecial 62, 3) := by decide +kernel
theorem dX9_init_89 : decode cX9_init 89 = .ok (.putfield 63, 3) := by decide +kernel
theorem dX9_init_92 : decode cX9_init 92 = .ok (.aload_n 0, 1) := by decide +kernel
theorem dX9_init_93 : decode cX9_init 93 = .ok (.bipush 6, 2) := by decide +kernel
theorem dX9_init_95 : decode cX9_init 95 = .ok (.newarray .int, 2) := by decide +kernel
theorem dX9_init_97 : decode cX9_init 97 = .ok (.putfield 67, 3) := by decide +kernel
theorem dX9_init_100 : decode cX9_init 100 = .ok (.aload_n 0, 1) := by decide +kernel
theorem dX9_init_101 : decode cX9_init 101 = .ok (.sipush 160, 3) := by decide +kernel
theorem dX9_init_104 : decode cX9_init 104 = .ok (.newarray .int, 2) := by decide +kernel
theorem dX9_init_106 : decode cX9_init 106 = .ok (.putfield 71, 3) := by decide +kernel
theorem dX9_init_109 : decode cX9_init 109 = .ok (.aload_n 0, 1) := by decide +kernel
theorem dX9_init_110 : decode cX9_init 110 = .ok (.bipush 10, 2) := by decide +kernel
theorem dX9_init_112 : decode cX9_init 112 = .ok (.newarray .int, 2) := by decide +kernel
theorem dX9_init_114 : decode cX9_init 114 = .ok (.putfield 74, 3) := by decide +kernel
theorem dX9_init_117 : decode cX9_init 117 = .ok (.aload_n 0, 1) := by decide +kernel
theorem dX9_init_118 : decode cX9_init 118 = .ok (.bipush 10, 2) := by decide +kernel
theorem dX9_init_120 : decode cX9_init 120 = .ok (.newarray .int, 2) := by decide +kernel
theorem dX9_init_122 : decode cX9_init 122 = .ok (.putfield 77, 3) := by decide +kernel
theorem dX9_init_125 : decode cX9_init 125 = .ok (.iconst 0, 1) := by decide +kernel
theorem dX9_init_126 : decode cX9_init 126 = .ok (.istore_n 1, 1) := by decide +kernel
theorem dX9_init_127 : decode cX9_init 127 = .ok (.iload_n 1, 1) := by decide +kernel
theorem dX9_init_128 : decode cX9_init 128 = .ok (.bipush 6, 2) := by decide +kernel
theorem dX9_init_130 : decode cX9_init 130 = .ok (.if_icmp .ge 22, 3) := by decide +kernel
theorem dX9_init_133 : decode cX9_init 133 = .ok (.aload_n 0, 1) := by decide +kernel
theorem dX9_init_134 : decode cX9_init 134 = .ok (.getfield 50, 3) := by decide +kernel
theorem dX9_init_137 : decode cX9_init 137 = .ok (.iload_n 1, 1) := by decide +kernel
theorem dX9_init_138 : decode cX9_init 138 = .ok (.new 48, 3) := by decide +kernel
theorem dX9_init_141 : decode cX9_init 141 = .ok (.dup, 1) := by decide +kernel
theorem dX9_init_142 : decode cX9_init 142 = .ok (.invokespecial 80, 3) := by decide +kernel
theorem dX9_init_145 : decode cX9_init 145 = .ok (.aastore, 1) := by decide +kernel
theorem dX9_init_146 : decode cX9_init 146 = .ok (.iinc 1 1, 3) := by decide +kernel
theorem dX9_init_149 : decode cX9_init 149 = .ok (.goto (-22), 3) := by decide +kernel
theorem dX9_init_152 : decode cX9_init 152 = .ok (.iconst 0, 1) := by decide +kernel
theorem dX9_init_153 : decode cX9_init 153 = .ok (.istore_n 1, 1) := by decide +kernel
theorem dX9_init_154 : decode cX9_init 154 = .ok (.iload_n 1, 1) := by decide +kernel
theorem dX9_init_155 : decode cX9_init 155 = .ok (.iconst 4, 1) := by decide +kernel
theorem dX9_init_156 : decode cX9_init 156 = .ok (.if_icmp .ge 22, 3) := by decide +kernel
theorem dX9_init_159 : decode cX9_init 159 = .ok (.aload_n 0, 1) := by decide +kernel
theorem dX9_init_160 : decode cX9_init 160 = .ok (.getfield 56, 3) := by decide +kernel
theorem dX9_init_163 : decode cX9_init 163 = .ok (.iload_n 1, 1) := by decide +kernel
theorem dX9_init_164 : decode cX9_init 164 = .ok (.new 54, 3) := by decide +kernel
theorem dX9_init_167 : decode cX9_init 167 = .ok (.dup, 1) := by decide +kernel
theorem dX9_init_168 : decode cX9_init 168 = .ok (.invokespecial 81, 3) := by decide +kernel
theorem dX9_init_171 : decode cX9_init 171 = .ok (.aastore, 1) := by decide +kernel
theorem dX9_init_172 : decode cX9_init 172 = .ok (.iinc 1 1, 3) := by decide +kernel
theorem dX9_init_175 : decode cX9_init 175 = .ok (.goto (-21), 3) := by decide +kernel
theorem dX9_init_178 : decode cX9_init 178 = .ok (.iconst 0, 1) := by decide +kernel
theorem dX9_init_179 : decode cX9_init 179 = .ok (.istore_n 1, 1) := by decide +kernel
theorem dX9_init_180 : decode cX9_init 180 = .ok (.iload_n 1, 1) := by decide +kernel
theorem dX9_init_181 : decode cX9_init 181 = .ok (.ldc 82, 2) := by decide +kernel
theorem dX9_init_183 : decode cX9_init 183 = .ok (.invokevirtual 84, 3) := by decide +kernel
theorem dX9_init_186 : decode cX9_init 186 = .ok (.if_icmp .ge 22, 3) := by decide +kernel
theorem dX9_init_189 : decode cX9_init 189 = .ok (.aload_n 0, 1) := by decide +kernel
theorem dX9_init_190 : decode cX9_init 190 = .ok (.getfield 44, 3) := by decide +kernel
theorem dX9_init_193 : decode cX9_init 193 = .ok (.ldc 82, 2) := by decide +kernel
theorem dX9_init_195 : decode cX9_init 195 = .ok (.iload_n 1, 1) := by decide +kernel
theorem dX9_init_196 : decode cX9_init 196 = .ok (.invokevirtual 90, 3) := by decide +kernel
theorem dX9_init_199 : decode cX9_init 199 = .ok (.invokevirtual 94, 3) := by decide +kernel
theorem dX9_init_202 : decode cX9_init 202 = .ok (.iinc 1 1, 3) := by decide +kernel
theorem dX9_init_205 : decode cX9_init 205 = .ok (.goto (-25), 3) := by decide +kernel
theorem dX9_init_208 : decode cX9_init 208 = .ok (.aload_n 0, 1) := by decide +kernel
theorem dX9_init_209 : decode cX9_init 209 = .ok (.getfield 23, 3) := by decide +kernel
theorem dX9_init_212 : decode cX9_init 212 = .ok (.iconst 0, 1) := by decide +kernel
theorem dX9_init_213 : decode cX9_init 213 = .ok (.aload_n 0, 1) := by decide +kernel
theorem dX9_init_214 : decode cX9_init 214 = .ok (.getfield 44, 3) := by decide +kernel
theorem dX9_init_217 : decode cX9_init 217 = .ok (.invokevirtual 98, 3) := by decide +kernel
theorem dX9_init_220 : decode cX9_init 220 = .ok (.aastore, 1) := by decide +kernel
theorem dX9_init_221 : decode cX9_init 221 = .ok (.aload_n 0, 1) := by decide +kernel
theorem dX9_init_222 : decode cX9_init 222 = .ok (.iconst 1, 1) := by decide +kernel
theorem dX9_init_223 : decode cX9_init 223 = .ok (.putfield 102, 3) := by decide +kernel
theorem dX9_init_226 : decode cX9_init 226 = .ok (.return_, 1) := by decide +kernel
theorem dX9_wine_0 : decode cX9_wine 0 = .ok (.iload_n 1, 1) := by decide +kernel
theorem dX9_wine_1 : decode cX9_wine 1 = .ok (.bipush 99, 2) := by decide +kernel
theorem dX9_wine_3 : decode cX9_wine 3 = .ok (.invokestatic 106, 3) := by decide +kernel
theorem dX9_wine_6 : decode cX9_wine 6 = .ok (.ifCond .eq 30, 3) := by decide +kernel
theorem dX9_wine_9 : decode cX9_wine 9 = .ok (.iload_n 2, 1) := by decide +kernel
theorem dX9_wine_10 : decode cX9_wine 10 = .ok (.sipush 999, 3) := by decide +kernel
theorem dX9_wine_13 : decode cX9_wine 13 = .ok (.invokestatic 106, 3) := by decide +kernel
theorem dX9_wine_16 : decode cX9_wine 16 = .ok (.ifCond .eq 20, 3) := by decide +kernel
theorem dX9_wine_19 : decode cX9_wine 19 = .ok (.iload_n 3, 1) := by decide +kernel
theorem dX9_wine_20 : decode cX9_wine 20 = .ok (.invokestatic 110, 3) := by decide +kernel
theorem dX9_wine_23 : decode cX9_wine 23 = .ok (.ifCond .eq 13, 3) := by decide +kernel
theorem dX9_wine_26 : decode cX9_wine 26 = .ok (.iload 4, 2) := by decide +kernel
theorem dX9_wine_28 : decode cX9_wine 28 = .ok (.ldc 114, 2) := by decide +kernel
theorem dX9_wine_30 : decode cX9_wine 30 = .ok (.invokestatic 106, 3) := by decide +kernel
theorem dX9_wine_33 : decode cX9_wine 33 = .ok (.ifCond .ne 6, 3) := by decide +kernel
theorem dX9_wine_36 : decode cX9_wine 36 = .ok (.bipush (-2), 2) := by decide +kernel
theorem dX9_wine_38 : decode cX9_wine 38 = .ok (.ireturn, 1) := by decide +kernel
theorem dX9_wine_39 : decode cX9_wine 39 = .ok (.aload_n 0, 1) := by decide +kernel
theorem dX9_wine_40 : decode cX9_wine 40 = .ok (.getfield 115, 3) := by decide +kernel
theorem dX9_wine_43 : decode cX9_wine 43 = .ok (.bipush 8, 2) := by decide +kernel
theorem dX9_wine_45 : decode cX9_wine 45 = .ok (.if_icmp .lt 6, 3) := by decide +kernel
theorem dX9_wine_48 : decode cX9_wine 48 = .ok (.bipush (-4), 2) := by decide +kernel
theorem dX9_wine_50 : decode cX9_wine 50 = .ok (.ireturn, 1) := by decide +kernel
theorem dX9_wine_51 : decode cX9_wine 51 = .ok (.aload_n 0, 1) := by decide +kernel
theorem dX9_wine_52 : decode cX9_wine 52 = .ok (.getfield 11, 3) := by decide +kernel
theorem dX9_wine_55 : decode cX9_wine 55 = .ok (.aload_n 0, 1) := by decide +kernel
theorem dX9_wine_56 : decode cX9_wine 56 = .ok (.getfield 115, 3) := by decide +kernel
theorem dX9_wine_59 : decode cX9_wine 59 = .ok (.new 9, 3) := by decide +kernel
theorem dX9_wine_62 : decode cX9_wine 62 = .ok (.dup, 1) := by decide +kernel
theorem dX9_wine_63 : decode cX9_wine 63 = .ok (.aload_n 0, 1) := by decide +kernel
theorem dX9_wine_64 : decode cX9_wine 64 = .ok (.getfield 115, 3) := by decide +kernel
theorem dX9_wine_67 : decode cX9_wine 67 = .ok (.iload_n 1, 1) := by decide +kernel
theorem dX9_wine_68 : decode cX9_wine 68 = .ok (.iload_n 2, 1) := by decide +kernel
theorem dX9_wine_69 : decode cX9_wine 69 = .ok (.iload_n 3, 1) := by decide +kernel
theorem dX9_wine_70 : decode cX9_wine 70 = .ok (.iload 4, 2) := by decide +kernel
theorem dX9_wine_72 : decode cX9_wine 72 = .ok (.invokespecial 118, 3) := by decide +kernel
theorem dX9_wine_75 : decode cX9_wine 75 = .ok (.aastore, 1) := by decide +kernel
theorem dX9_wine_76 : decode cX9_wine 76 = .ok (.aload_n 0, 1) := by decide +kernel
theorem dX9_wine_77 : decode cX9_wine 77 = .ok (.dup, 1) := by decide +kernel
theorem dX9_wine_78 : decode cX9_wine 78 = .ok (.getfield 115, 3) := by decide +kernel
theorem dX9_wine_81 : decode cX9_wine 81 = .ok (.iconst 1, 1) := by decide +kernel
theorem dX9_wine_82 : decode cX9_wine 82 = .ok (.iadd, 1) := by decide +kernel
theorem dX9_wine_83 : decode cX9_wine 83 = .ok (.putfield 115, 3) := by decide +kernel
theorem dX9_wine_86 : decode cX9_wine 86 = .ok (.aload_n 0, 1) := by decide +kernel
theorem dX9_wine_87 : decode cX9_wine 87 = .ok (.getfield 115, 3) := by decide +kernel
theorem dX9_wine_90 : decode cX9_wine 90 = .ok (.iconst 1, 1) := by decide +kernel
theorem dX9_wine_91 : decode cX9_wine 91 = .ok (.isub, 1) := by decide +kernel
theorem dX9_wine_92 : decode cX9_wine 92 = .ok (.ireturn, 1) := by decide +kernel
theorem dX9_drunk_0 : decode cX9_drunk 0 = .ok (.aload_n 0, 1) := by decide +kernel
theorem dX9_drunk_1 : decode cX9_drunk 1 = .ok (.iload_n 1, 1) := by decide +kernel
theorem dX9_drunk_2 : decode cX9_drunk 2 = .ok (.invokevirtual 121, 3) := by decide +kernel
theorem dX9_drunk_5 : decode cX9_drunk 5 = .ok (.astore_n 3, 1) := by decide +kernel
theorem dX9_drunk_6 : decode cX9_drunk 6 = .ok (.aload_n 3, 1) := by decide +kernel
theorem dX9_drunk_7 : decode cX9_drunk 7 = .ok (.ifnull 13, 3) := by decide +kernel
theorem dX9_drunk_10 : decode cX9_drunk 10 = .ok (.iload_n 2, 1) := by decide +kernel
theorem dX9_drunk_11 : decode cX9_drunk 11 = .ok (.sipush 999, 3) := by decide +kernel
theorem dX9_drunk_14 : decode cX9_drunk 14 = .ok (.invokestatic 106, 3) := by decide +kernel
theorem dX9_drunk_17 : decode cX9_drunk 17 = .ok (.ifCond .ne 6, 3) := by decide +kernel
theorem dX9_drunk_20 : decode cX9_drunk 20 = .ok (.bipush (-2), 2) := by decide +kernel
theorem dX9_drunk_22 : decode cX9_drunk 22 = .ok (.ireturn, 1) := by decide +kernel
theorem dX9_drunk_23 : decode cX9_drunk 23 = .ok (.aload_n 3, 1) := by decide +kernel
theorem dX9_drunk_24 : decode cX9_drunk 24 = .ok (.getfield 125, 3) := by decide +kernel
theorem dX9_drunk_27 : decode cX9_drunk 27 = .ok (.istore 4, 2) := by decide +kernel
theorem dX9_drunk_29 : decode cX9_drunk 29 = .ok (.aload_n 3, 1) := by decide +kernel
theorem dX9_drunk_30 : decode cX9_drunk 30 = .ok (.iload_n 2, 1) := by decide +kernel
theorem dX9_drunk_31 : decode cX9_drunk 31 = .ok (.putfield 125, 3) := by decide +kernel
theorem dX9_drunk_34 : decode cX9_drunk 34 = .ok (.iload 4, 2) := by decide +kernel
theorem dX9_drunk_36 : decode cX9_drunk 36 = .ok (.ireturn, 1) := by decide +kernel
theorem dX9_book_0 : decode cX9_book 0 = .ok (.iload_n 1, 1) := by decide +kernel
theorem dX9_book_1 : decode cX9_book 1 = .ok (.iload_n 2, 1) := by decide +kernel
theorem dX9_book_2 : decode cX9_book 2 = .ok (.invokestatic 128, 3) := by decide +kernel
theorem dX9_book_5 : decode cX9_book 5 = .ok (.iconst (-1), 1) := by decide +kernel
theorem dX9_book_6 : decode cX9_book 6 = .ok (.if_icmp .eq 22, 3) := by decide +kernel
theorem dX9_book_9 : decode cX9_book 9 = .ok (.iload 4, 2) := by decide +kernel
theorem dX9_book_11 : decode cX9_book 11 = .ok (.bipush 99, 2) := by decide +kernel
theorem dX9_book_13 : decode cX9_book 13 = .ok (.invokestatic 106, 3) := by decide +kernel
theorem dX9_book_16 : decode cX9_book 16 = .ok (.ifCond .eq 12, 3) := by decide +kernel
theorem dX9_book_19 : decode cX9_book 19 = .ok (.iload_n 3, 1) := by decide +kernel
theorem dX9_book_20 : decode cX9_book 20 = .ok (.iload 4, 2) := by decide +kernel
theorem dX9_book_22 : decode cX9_book 22 = .ok (.invokestatic 106, 3) := by decide +kernel
theorem dX9_book_25 : decode cX9_book 25 = .ok (.ifCond .ne 6, 3) := by decide +kernel
theorem dX9_book_28 : decode cX9_book 28 = .ok (.bipush (-2), 2) := by decide +kernel
theorem dX9_book_30 : decode cX9_book 30 = .ok (.ireturn, 1) := by decide +kernel
theorem dX9_book_31 : decode cX9_book 31 = .ok (.aload_n 0, 1) := by decide +kernel
theorem dX9_book_32 : decode cX9_book 32 = .ok (.getfield 30, 3) := by decide +kernel
theorem dX9_book_35 : decode cX9_book 35 = .ok (.iload_n 1, 1) := by decide +kernel
theorem dX9_book_36 : decode cX9_book 36 = .ok (.iload_n 2, 1) := by decide +kernel
theorem dX9_book_37 : decode cX9_book 37 = .ok (.iload_n 3, 1) := by decide +kernel
theorem dX9_book_38 : decode cX9_book 38 = .ok (.iload 4, 2) := by decide +kernel
theorem dX9_book_40 : decode cX9_book 40 = .ok (.invokevirtual 132, 3) := by decide +kernel
theorem dX9_book_43 : decode cX9_book 43 = .ok (.iconst 1, 1) := by decide +kernel
theorem dX9_book_44 : decode cX9_book 44 = .ok (.ireturn, 1) := by decide +kernel
theorem dX9_test_0 : decode cX9_test 0 = .ok (.iload_n 1, 1) := by decide +kernel
theorem dX9_test_1 : decode cX9_test 1 = .ok (.iconst 3, 1) := by decide +kernel
theorem dX9_test_2 : decode cX9_test 2 = .ok (.invokestatic 136, 3) := by decide +kernel
theorem dX9_test_5 : decode cX9_test 5 = .ok (.ifCond .eq 12, 3) := by decide +kernel
theorem dX9_test_8 : decode cX9_test 8 = .ok (.iload_n 2, 1) := by decide +kernel
theorem dX9_test_9 : decode cX9_test 9 = .ok (.bipush 100, 2) := by decide +kernel
theorem dX9_test_11 : decode cX9_test 11 = .ok (.invokestatic 106, 3) := by decide +kernel
theorem dX9_test_14 : decode cX9_test 14 = .ok (.ifCond .ne 6, 3) := by decide +kernel
theorem dX9_test_17 : decode cX9_test 17 = .ok (.bipush (-2), 2) := by decide +kernel
theorem dX9_test_19 : decode cX9_test 19 = .ok (.ireturn, 1) := by decide +kernel
theorem dX9_test_20 : decode cX9_test 20 = .ok (.aload_n 0, 1) := by decide +kernel
theorem dX9_test_21 : decode cX9_test 21 = .ok (.getfield 30, 3) := by decide +kernel
theorem dX9_test_24 : decode cX9_test 24 = .ok (.getfield 139, 3) := by decide +kernel
theorem dX9_test_27 : decode cX9_test 27 = .ok (.iload_n 1, 1) := by decide +kernel
theorem dX9_test_28 : decode cX9_test 28 = .ok (.iaload, 1) := by decide +kernel
theorem dX9_test_29 : decode cX9_test 29 = .ok (.istore_n 3, 1) := by decide +kernel
theorem dX9_test_30 : decode cX9_test 30 = .ok (.aload_n 0, 1) := by decide +kernel
theorem dX9_test_31 : decode cX9_test 31 = .ok (.getfield 30, 3) := by decide +kernel
theorem dX9_test_34 : decode cX9_test 34 = .ok (.getfield 139, 3) := by decide +kernel
theorem dX9_test_37 : decode cX9_test 37 = .ok (.iload_n 1, 1) := by decide +kernel
theorem dX9_test_38 : decode cX9_test 38 = .ok (.iload_n 2, 1) := by decide +kernel
theorem dX9_test_39 : decode cX9_test 39 = .ok (.iastore, 1) := by decide +kernel
theorem dX9_test_40 : decode cX9_test 40 = .ok (.iload_n 3, 1) := by decide +kernel
theorem dX9_test_41 : decode cX9_test 41 = .ok (.ireturn, 1) := by decide +kernel
theorem dX9_bottle_0 : decode cX9_bottle 0 = .ok (.iload_n 2, 1) := by decide +kernel
theorem dX9_bottle_1 : decode cX9_bottle 1 = .ok (.ifCond .ge 7, 3) := by decide +kernel
theorem dX9_bottle_4 : decode cX9_bottle 4 = .ok (.aconst_null, 1) := by decide +kernel
theorem dX9_bottle_5 : decode cX9_bottle 5 = .ok (.goto 11, 3) := by decide +kernel
theorem dX9_bottle_8 : decode cX9_bottle 8 = .ok (.aload_n 0, 1) := by decide +kernel
theorem dX9_bottle_9 : decode cX9_bottle 9 = .ok (.iload_n 2, 1) := by decide +kernel
theorem dX9_bottle_10 : decode cX9_bottle 10 = .ok (.bipush 10, 2) := by decide +kernel
theorem dX9_bottle_12 : decode cX9_bottle 12 = .ok (.idiv, 1) := by decide +kernel
theorem dX9_bottle_13 : decode cX9_bottle 13 = .ok (.invokevirtual 121, 3) := by decide +kernel
theorem dX9_bottle_16 : decode cX9_bottle 16 = .ok (.astore 4, 2) := by decide +kernel
theorem dX9_bottle_18 : decode cX9_bottle 18 = .ok (.iload_n 2, 1) := by decide +kernel
theorem dX9_bottle_19 : decode cX9_bottle 19 = .ok (.ifCond .ge 7, 3) := by decide +kernel
theorem dX9_bottle_22 : decode cX9_bottle 22 = .ok (.aconst_null, 1) := by decide +kernel
theorem dX9_bottle_23 : decode cX9_bottle 23 = .ok (.goto 11, 3) := by decide +kernel
theorem dX9_bottle_26 : decode cX9_bottle 26 = .ok (.aload_n 0, 1) := by decide +kernel
theorem dX9_bottle_27 : decode cX9_bottle 27 = .ok (.iload_n 2, 1) := by decide +kernel
theorem dX9_bottle_28 : decode cX9_bottle 28 = .ok (.bipush 10, 2) := by decide +kernel
theorem dX9_bottle_30 : decode cX9_bottle 30 = .ok (.irem, 1) := by decide +kernel
theorem dX9_bottle_31 : decode cX9_bottle 31 = .ok (.invokevirtual 121, 3) := by decide +kernel
theorem dX9_bottle_34 : decode cX9_bottle 34 = .ok (.astore 5, 2) := by decide +kernel
theorem dX9_bottle_36 : decode cX9_bottle 36 = .ok (.iload_n 1, 1) := by decide +kernel
theorem dX9_bottle_37 : decode cX9_bottle 37 = .ok (.iconst 5, 1) := by decide +kernel
theorem dX9_bottle_38 : decode cX9_bottle 38 = .ok (.invokestatic 106, 3) := by decide +kernel
theorem dX9_bottle_41 : decode cX9_bottle 41 = .ok (.ifCond .eq 20, 3) := by decide +kernel
theorem dX9_bottle_44 : decode cX9_bottle 44 = .ok (.aload 4, 2) := by decide +kernel
theorem dX9_bottle_46 : decode cX9_bottle 46 = .ok (.ifnull 15, 3) := by decide +kernel
theorem dX9_bottle_49 : decode cX9_bottle 49 = .ok (.aload 5, 2) := by decide +kernel
theorem dX9_bottle_51 : decode cX9_bottle 51 = .ok (.ifnull 10, 3) := by decide +kernel
theorem dX9_bottle_54 : decode cX9_bottle 54 = .ok (.iload_n 3, 1) := by decide +kernel
theorem dX9_bottle_55 : decode cX9_bottle 55 = .ok (.invokestatic 110, 3) := by decide +kernel
theorem dX9_bottle_58 : decode cX9_bottle 58 = .ok (.ifCond .ne 6, 3) := by decide +kernel
theorem dX9_bottle_61 : decode cX9_bottle 61 = .ok (.bipush (-2), 2) := by decide +kernel
theorem dX9_bottle_63 : decode cX9_bottle 63 = .ok (.ireturn, 1) := by decide +kernel
theorem dX9_bottle_64 : decode cX9_bottle 64 = .ok (.aload_n 0, 1) := by decide +kernel
theorem dX9_bottle_65 : decode cX9_bottle 65 = .ok (.getfield 142, 3) := by decide +kernel
theorem dX9_bottle_68 : decode cX9_bottle 68 = .ok (.bipush 24, 2) := by decide +kernel
theorem dX9_bottle_70 : decode cX9_bottle 70 = .ok (.if_icmp .lt 6, 3) := by decide +kernel
theorem dX9_bottle_73 : decode cX9_bottle 73 = .ok (.bipush (-4), 2) := by decide +kernel
theorem dX9_bottle_75 : decode cX9_bottle 75 = .ok (.ireturn, 1) := by decide +kernel
theorem dX9_bottle_76 : decode cX9_bottle 76 = .ok (.aload_n 0, 1) := by decide +kernel
theorem dX9_bottle_77 : decode cX9_bottle 77 = .ok (.getfield 17, 3) := by decide +kernel
theorem dX9_bottle_80 : decode cX9_bottle 80 = .ok (.aload_n 0, 1) := by decide +kernel
theorem dX9_bottle_81 : decode cX9_bottle 81 = .ok (.getfield 142, 3) := by decide +kernel
theorem dX9_bottle_84 : decode cX9_bottle 84 = .ok (.new 15, 3) := by decide +kernel
theorem dX9_bottle_87 : decode cX9_bottle 87 = .ok (.dup, 1) := by decide +kernel
theorem dX9_bottle_88 : decode cX9_bottle 88 = .ok (.iload_n 1, 1) := by decide +kernel
theorem dX9_bottle_89 : decode cX9_bottle 89 = .ok (.aload 4, 2) := by decide +kernel
theorem dX9_bottle_91 : decode cX9_bottle 91 = .ok (.aload 5, 2) := by decide +kernel
theorem dX9_bottle_93 : decode cX9_bottle 93 = .ok (.iload_n 3, 1) := by decide +kernel
theorem dX9_bottle_94 : decode cX9_bottle 94 = .ok (.invokespecial 145, 3) := by decide +kernel
theorem dX9_bottle_97 : decode cX9_bottle 97 = .ok (.aastore, 1) := by decide +kernel
theorem dX9_bottle_98 : decode cX9_bottle 98 = .ok (.aload_n 0, 1) := by decide +kernel
theorem dX9_bottle_99 : decode cX9_bottle 99 = .ok (.dup, 1) := by decide +kernel
theorem dX9_bottle_100 : decode cX9_bottle 100 = .ok (.getfield 142, 3) := by decide +kernel
theorem dX9_bottle_103 : decode cX9_bottle 103 = .ok (.iconst 1, 1) := by decide +kernel
theorem dX9_bottle_104 : decode cX9_bottle 104 = .ok (.iadd, 1) := by decide +kernel
theorem dX9_bottle_105 : decode cX9_bottle 105 = .ok (.putfield 142, 3) := by decide +kernel
theorem dX9_bottle_108 : decode cX9_bottle 108 = .ok (.aload_n 0, 1) := by decide +kernel
theorem dX9_bottle_109 : decode cX9_bottle 109 = .ok (.getfield 142, 3) := by decide +kernel
theorem dX9_bottle_112 : decode cX9_bottle 112 = .ok (.iconst 1, 1) := by decide +kernel
theorem dX9_bottle_113 : decode cX9_bottle 113 = .ok (.isub, 1) := by decide +kernel
theorem dX9_bottle_114 : decode cX9_bottle 114 = .ok (.ireturn, 1) := by decide +kernel
theorem dX9_told_0 : decode cX9_told 0 = .ok (.aload_n 0, 1) := by decide +kernel
theorem dX9_told_1 : decode cX9_told 1 = .ok (.iload_n 1, 1) := by decide +kernel
theorem dX9_told_2 : decode cX9_told 2 = .ok (.invokevirtual 148, 3) := by decide +kernel
theorem dX9_told_5 : decode cX9_told 5 = .ok (.astore_n 3, 1) := by decide +kernel
theorem dX9_told_6 : decode cX9_told 6 = .ok (.aload_n 3, 1) := by decide +kernel
theorem dX9_told_7 : decode cX9_told 7 = .ok (.ifnonnull 6, 3) := by decide +kernel
theorem dX9_told_10 : decode cX9_told 10 = .ok (.bipush (-5), 2) := by decide +kernel
theorem dX9_told_12 : decode cX9_told 12 = .ok (.ireturn, 1) := by decide +kernel
theorem dX9_told_13 : decode cX9_told 13 = .ok (.iload_n 2, 1) := by decide +kernel
theorem dX9_told_14 : decode cX9_told 14 = .ok (.tableswitch 136 0 10 #[58, 63, 71, 77, 83, 97, 102, 110, 115, 122, 129], 58) := by decide +kernel
theorem dX9_told_72 : decode cX9_told 72 = .ok (.aload_n 3, 1) := by decide +kernel
theorem dX9_told_73 : decode cX9_told 73 = .ok (.getfield 152, 3) := by decide +kernel
theorem dX9_told_76 : decode cX9_told 76 = .ok (.ireturn, 1) := by decide +kernel
theorem dX9_told_77 : decode cX9_told 77 = .ok (.aload_n 3, 1) := by decide +kernel
theorem dX9_told_78 : decode cX9_told 78 = .ok (.getfield 155, 3) := by decide +kernel
theorem dX9_told_81 : decode cX9_told 81 = .ok (.getfield 159, 3) := by decide +kernel
theorem dX9_told_84 : decode cX9_told 84 = .ok (.ireturn, 1) := by decide +kernel
theorem dX9_told_85 : decode cX9_told 85 = .ok (.aload_n 0, 1) := by decide +kernel
theorem dX9_told_86 : decode cX9_told 86 = .ok (.aload_n 3, 1) := by decide +kernel
theorem dX9_told_87 : decode cX9_told 87 = .ok (.invokevirtual 162, 3) := by decide +kernel
theorem dX9_told_90 : decode cX9_told 90 = .ok (.ireturn, 1) := by decide +kernel
theorem dX9_told_91 : decode cX9_told 91 = .ok (.aload_n 0, 1) := by decide +kernel
theorem dX9_told_92 : decode cX9_told 92 = .ok (.aload_n 3, 1) := by decide +kernel
theorem dX9_told_93 : decode cX9_told 93 = .ok (.invokevirtual 166, 3) := by decide +kernel
theorem dX9_told_96 : decode cX9_told 96 = .ok (.ireturn, 1) := by decide +kernel
theorem dX9_told_97 : decode cX9_told 97 = .ok (.aload_n 0, 1) := by decide +kernel
theorem dX9_told_98 : decode cX9_told 98 = .ok (.aload_n 3, 1) := by decide +kernel
theorem dX9_told_99 : decode cX9_told 99 = .ok (.invokevirtual 169, 3) := by decide +kernel
theorem dX9_told_102 : decode cX9_told 102 = .ok (.ifCond .eq 7, 3) := by decide +kernel
theorem dX9_told_105 : decode cX9_told 105 = .ok (.iconst 1, 1) := by decide +kernel
theorem dX9_told_106 : decode cX9_told 106 = .ok (.goto 4, 3) := by decide +kernel
theorem dX9_told_109 : decode cX9_told 109 = .ok (.iconst 0, 1) := by decide +kernel
theorem dX9_told_110 : decode cX9_told 110 = .ok (.ireturn, 1) := by decide +kernel
theorem dX9_told_111 : decode cX9_told 111 = .ok (.aload_n 3, 1) := by decide +kernel
theorem dX9_told_112 : decode cX9_told 112 = .ok (.getfield 173, 3) := by decide +kernel
theorem dX9_told_115 : decode cX9_told 115 = .ok (.ireturn, 1) := by decide +kernel
theorem dX9_told_116 : decode cX9_told 116 = .ok (.aload_n 3, 1) := by decide +kernel
theorem dX9_told_117 : decode cX9_told 117 = .ok (.getfield 152, 3) := by decide +kernel
theorem dX9_told_120 : decode cX9_told 120 = .ok (.invokestatic 176, 3) := by decide +kernel
theorem dX9_told_123 : decode cX9_told 123 = .ok (.ireturn, 1) := by decide +kernel
theorem dX9_told_124 : decode cX9_told 124 = .ok (.aload_n 3, 1) := by decide +kernel
theorem dX9_told_125 : decode cX9_told 125 = .ok (.getfield 180, 3) := by decide +kernel
theorem dX9_told_128 : decode cX9_told 128 = .ok (.ireturn, 1) := by decide +kernel
theorem dX9_told_129 : decode cX9_told 129 = .ok (.aload_n 0, 1) := by decide +kernel
theorem dX9_told_130 : decode cX9_told 130 = .ok (.aload_n 3, 1) := by decide +kernel
theorem dX9_told_131 : decode cX9_told 131 = .ok (.iconst 0, 1) := by decide +kernel
theorem dX9_told_132 : decode cX9_told 132 = .ok (.invokevirtual 183, 3) := by decide +kernel
theorem dX9_told_135 : decode cX9_told 135 = .ok (.ireturn, 1) := by decide +kernel
theorem dX9_told_136 : decode cX9_told 136 = .ok (.aload_n 0, 1) := by decide +kernel
theorem dX9_told_137 : decode cX9_told 137 = .ok (.aload_n 3, 1) := by decide +kernel
theorem dX9_told_138 : decode cX9_told 138 = .ok (.iconst 1, 1) := by decide +kernel
theorem dX9_told_139 : decode cX9_told 139 = .ok (.invokevirtual 183, 3) := by decide +kernel
theorem dX9_told_142 : decode cX9_told 142 = .ok (.ireturn, 1) := by decide +kernel
theorem dX9_told_143 : decode cX9_told 143 = .ok (.aload_n 0, 1) := by decide +kernel
theorem dX9_told_144 : decode cX9_told 144 = .ok (.aload_n 3, 1) := by decide +kernel
theorem dX9_told_145 : decode cX9_told 145 = .ok (.iconst 2, 1) := by decide +kernel
theorem dX9_told_146 : decode cX9_told 146 = .ok (.invokevirtual 183, 3) := by decide +kernel
theorem dX9_told_149 : decode cX9_told 149 = .ok (.ireturn, 1) := by decide +kernel
theorem dX9_told_150 : decode cX9_told 150 = .ok (.bipush (-5), 2) := by decide +kernel
theorem dX9_told_152 : decode cX9_told 152 = .ok (.ireturn, 1) := by decide +kernel
theorem dX9_shows_0 : decode cX9_shows 0 = .ok (.aload_n 0, 1) := by decide +kernel
theorem dX9_shows_1 : decode cX9_shows 1 = .ok (.iload_n 1, 1) := by decide +kernel
theorem dX9_shows_2 : decode cX9_shows 2 = .ok (.invokevirtual 148, 3) := by decide +kernel
theorem dX9_shows_5 : decode cX9_shows 5 = .ok (.astore_n 3, 1) := by decide +kernel
theorem dX9_shows_6 : decode cX9_shows 6 = .ok (.aload_n 3, 1) := by decide +kernel
theorem dX9_shows_7 : decode cX9_shows 7 = .ok (.ifnull 12, 3) := by decide +kernel
theorem dX9_shows_10 : decode cX9_shows 10 = .ok (.iload_n 2, 1) := by decide +kernel
theorem dX9_shows_11 : decode cX9_shows 11 = .ok (.bipush 6, 2) := by decide +kernel
theorem dX9_shows_13 : decode cX9_shows 13 = .ok (.invokestatic 136, 3) := by decide +kernel
theorem dX9_shows_16 : decode cX9_shows 16 = .ok (.ifCond .ne 6, 3) := by decide +kernel
theorem dX9_shows_19 : decode cX9_shows 19 = .ok (.bipush (-2), 2) := by decide +kernel
theorem dX9_shows_21 : decode cX9_shows 21 = .ok (.ireturn, 1) := by decide +kernel
theorem dX9_shows_22 : decode cX9_shows 22 = .ok (.iload_n 2, 1) := by decide +kernel
theorem dX9_shows_23 : decode cX9_shows 23 = .ok (.iconst 3, 1) := by decide +kernel
theorem dX9_shows_24 : decode cX9_shows 24 = .ok (.if_icmp .ge 14, 3) := by decide +kernel
theorem dX9_shows_27 : decode cX9_shows 27 = .ok (.aload_n 3, 1) := by decide +kernel
theorem dX9_shows_28 : decode cX9_shows 28 = .ok (.getfield 187, 3) := by decide +kernel
theorem dX9_shows_31 : decode cX9_shows 31 = .ok (.iload_n 2, 1) := by decide +kernel
theorem dX9_shows_32 : decode cX9_shows 32 = .ok (.invokestatic 190, 3) := by decide +kernel
theorem dX9_shows_35 : decode cX9_shows 35 = .ok (.goto 10, 3) := by decide +kernel
theorem dX9_shows_38 : decode cX9_shows 38 = .ok (.aload_n 3, 1) := by decide +kernel
theorem dX9_shows_39 : decode cX9_shows 39 = .ok (.iload_n 2, 1) := by decide +kernel
theorem dX9_shows_40 : decode cX9_shows 40 = .ok (.iconst 3, 1) := by decide +kernel
theorem dX9_shows_41 : decode cX9_shows 41 = .ok (.isub, 1) := by decide +kernel
theorem dX9_shows_42 : decode cX9_shows 42 = .ok (.invokevirtual 193, 3) := by decide +kernel
theorem dX9_shows_45 : decode cX9_shows 45 = .ok (.ireturn, 1) := by decide +kernel
theorem dX9_sale_0 : decode cX9_sale 0 = .ok (.aload_n 0, 1) := by decide +kernel
theorem dX9_sale_1 : decode cX9_sale 1 = .ok (.iload_n 1, 1) := by decide +kernel
theorem dX9_sale_2 : decode cX9_sale 2 = .ok (.invokevirtual 148, 3) := by decide +kernel
theorem dX9_sale_5 : decode cX9_sale 5 = .ok (.astore 5, 2) := by decide +kernel
theorem dX9_sale_7 : decode cX9_sale 7 = .ok (.aload 5, 2) := by decide +kernel
theorem dX9_sale_9 : decode cX9_sale 9 = .ok (.ifnull 53, 3) := by decide +kernel
theorem dX9_sale_12 : decode cX9_sale 12 = .ok (.iload_n 2, 1) := by decide +kernel
theorem dX9_sale_13 : decode cX9_sale 13 = .ok (.bipush 99, 2) := by decide +kernel
theorem dX9_sale_15 : decode cX9_sale 15 = .ok (.invokestatic 106, 3) := by decide +kernel
theorem dX9_sale_18 : decode cX9_sale 18 = .ok (.ifCond .eq 44, 3) := by decide +kernel
theorem dX9_sale_21 : decode cX9_sale 21 = .ok (.iload_n 2, 1) := by decide +kernel
theorem dX9_sale_22 : decode cX9_sale 22 = .ok (.bipush 10, 2) := by decide +kernel
theorem dX9_sale_24 : decode cX9_sale 24 = .ok (.idiv, 1) := by decide +kernel
theorem dX9_sale_25 : decode cX9_sale 25 = .ok (.iload_n 2, 1) := by decide +kernel
theorem dX9_sale_26 : decode cX9_sale 26 = .ok (.bipush 10, 2) := by decide +kernel
theorem dX9_sale_28 : decode cX9_sale 28 = .ok (.irem, 1) := by decide +kernel
theorem dX9_sale_29 : decode cX9_sale 29 = .ok (.if_icmp .eq 33, 3) := by decide +kernel
theorem dX9_sale_32 : decode cX9_sale 32 = .ok (.iload_n 3, 1) := by decide +kernel
theorem dX9_sale_33 : decode cX9_sale 33 = .ok (.sipush 9999, 3) := by decide +kernel
theorem dX9_sale_36 : decode cX9_sale 36 = .ok (.invokestatic 106, 3) := by decide +kernel
theorem dX9_sale_39 : decode cX9_sale 39 = .ok (.ifCond .eq 23, 3) := by decide +kernel
theorem dX9_sale_42 : decode cX9_sale 42 = .ok (.iload 4, 2) := by decide +kernel
theorem dX9_sale_44 : decode cX9_sale 44 = .ok (.bipush 99, 2) := by decide +kernel
theorem dX9_sale_46 : decode cX9_sale 46 = .ok (.invokestatic 106, 3) := by decide +kernel
theorem dX9_sale_49 : decode cX9_sale 49 = .ok (.ifCond .eq 13, 3) := by decide +kernel
theorem dX9_sale_52 : decode cX9_sale 52 = .ok (.iload 4, 2) := by decide +kernel
theorem dX9_sale_54 : decode cX9_sale 54 = .ok (.aload 5, 2) := by decide +kernel
theorem dX9_sale_56 : decode cX9_sale 56 = .ok (.getfield 196, 3) := by decide +kernel
theorem dX9_sale_59 : decode cX9_sale 59 = .ok (.if_icmp .ge 6, 3) := by decide +kernel
theorem dX9_sale_62 : decode cX9_sale 62 = .ok (.bipush (-2), 2) := by decide +kernel
theorem dX9_sale_64 : decode cX9_sale 64 = .ok (.ireturn, 1) := by decide +kernel
theorem dX9_sale_65 : decode cX9_sale 65 = .ok (.aload_n 0, 1) := by decide +kernel
theorem dX9_sale_66 : decode cX9_sale 66 = .ok (.getfield 37, 3) := by decide +kernel
theorem dX9_sale_69 : decode cX9_sale 69 = .ok (.getfield 199, 3) := by decide +kernel
theorem dX9_sale_72 : decode cX9_sale 72 = .ok (.bipush 40, 2) := by decide +kernel
theorem dX9_sale_74 : decode cX9_sale 74 = .ok (.if_icmp .lt 6, 3) := by decide +kernel
theorem dX9_sale_77 : decode cX9_sale 77 = .ok (.bipush (-4), 2) := by decide +kernel
theorem dX9_sale_79 : decode cX9_sale 79 = .ok (.ireturn, 1) := by decide +kernel
theorem dX9_sale_80 : decode cX9_sale 80 = .ok (.aload_n 0, 1) := by decide +kernel
theorem dX9_sale_81 : decode cX9_sale 81 = .ok (.getfield 37, 3) := by decide +kernel
theorem dX9_sale_84 : decode cX9_sale 84 = .ok (.iload_n 1, 1) := by decide +kernel
theorem dX9_sale_85 : decode cX9_sale 85 = .ok (.iload_n 2, 1) := by decide +kernel
theorem dX9_sale_86 : decode cX9_sale 86 = .ok (.iload_n 3, 1) := by decide +kernel
theorem dX9_sale_87 : decode cX9_sale 87 = .ok (.iload 4, 2) := by decide +kernel
theorem dX9_sale_89 : decode cX9_sale 89 = .ok (.invokevirtual 202, 3) := by decide +kernel
theorem dX9_sale_92 : decode cX9_sale 92 = .ok (.istore 6, 2) := by decide +kernel
theorem dX9_sale_94 : decode cX9_sale 94 = .ok (.aload 5, 2) := by decide +kernel
theorem dX9_sale_96 : decode cX9_sale 96 = .ok (.iload_n 2, 1) := by decide +kernel
theorem dX9_sale_97 : decode cX9_sale 97 = .ok (.bipush 10, 2) := by decide +kernel
theorem dX9_sale_99 : decode cX9_sale 99 = .ok (.idiv, 1) := by decide +kernel
theorem dX9_sale_100 : decode cX9_sale 100 = .ok (.iload_n 2, 1) := by decide +kernel
theorem dX9_sale_101 : decode cX9_sale 101 = .ok (.bipush 10, 2) := by decide +kernel
theorem dX9_sale_103 : decode cX9_sale 103 = .ok (.irem, 1) := by decide +kernel
theorem dX9_sale_104 : decode cX9_sale 104 = .ok (.iload 4, 2) := by decide +kernel
theorem dX9_sale_106 : decode cX9_sale 106 = .ok (.invokevirtual 205, 3) := by decide +kernel
theorem dX9_sale_109 : decode cX9_sale 109 = .ok (.iload 6, 2) := by decide +kernel
theorem dX9_sale_111 : decode cX9_sale 111 = .ok (.ireturn, 1) := by decide +kernel
theorem dX9_feed_0 : decode cX9_feed 0 = .ok (.iload_n 1, 1) := by decide +kernel
theorem dX9_feed_1 : decode cX9_feed 1 = .ok (.iconst 1, 1) := by decide +kernel
theorem dX9_feed_2 : decode cX9_feed 2 = .ok (.if_icmp .lt 9, 3) := by decide +kernel
theorem dX9_feed_5 : decode cX9_feed 5 = .ok (.iload_n 1, 1) := by decide +kernel
theorem dX9_feed_6 : decode cX9_feed 6 = .ok (.bipush 8, 2) := by decide +kernel
theorem dX9_feed_8 : decode cX9_feed 8 = .ok (.if_icmp .le 6, 3) := by decide +kernel
theorem dX9_feed_11 : decode cX9_feed 11 = .ok (.bipush (-2), 2) := by decide +kernel
theorem dX9_feed_13 : decode cX9_feed 13 = .ok (.ireturn, 1) := by decide +kernel
theorem dX9_feed_14 : decode cX9_feed 14 = .ok (.iload_n 1, 1) := by decide +kernel
theorem dX9_feed_15 : decode cX9_feed 15 = .ok (.sipush 160, 3) := by decide +kernel
theorem dX9_feed_18 : decode cX9_feed 18 = .ok (.aload_n 0, 1) := by decide +kernel
theorem dX9_feed_19 : decode cX9_feed 19 = .ok (.getfield 44, 3) := by decide +kernel
theorem dX9_feed_22 : decode cX9_feed 22 = .ok (.getfield 209, 3) := by decide +kernel
theorem dX9_feed_25 : decode cX9_feed 25 = .ok (.isub, 1) := by decide +kernel
theorem dX9_feed_26 : decode cX9_feed 26 = .ok (.if_icmp .le 6, 3) := by decide +kernel
theorem dX9_feed_29 : decode cX9_feed 29 = .ok (.bipush (-4), 2) := by decide +kernel
theorem dX9_feed_31 : decode cX9_feed 31 = .ok (.ireturn, 1) := by decide +kernel
theorem dX9_feed_32 : decode cX9_feed 32 = .ok (.iconst 0, 1) := by decide +kernel
theorem dX9_feed_33 : decode cX9_feed 33 = .ok (.istore 4, 2) := by decide +kernel
theorem dX9_feed_35 : decode cX9_feed 35 = .ok (.iload 4, 2) := by decide +kernel
theorem dX9_feed_37 : decode cX9_feed 37 = .ok (.iload_n 1, 1) := by decide +kernel
theorem dX9_feed_38 : decode cX9_feed 38 = .ok (.if_icmp .ge 24, 3) := by decide +kernel
theorem dX9_feed_41 : decode cX9_feed 41 = .ok (.aload_n 0, 1) := by decide +kernel
theorem dX9_feed_42 : decode cX9_feed 42 = .ok (.getfield 44, 3) := by decide +kernel
theorem dX9_feed_45 : decode cX9_feed 45 = .ok (.lload_n 2, 1) := by decide +kernel
theorem dX9_feed_46 : decode cX9_feed 46 = .ok (.bipush 8, 2) := by decide +kernel
theorem dX9_feed_48 : decode cX9_feed 48 = .ok (.iload 4, 2) := by decide +kernel
theorem dX9_feed_50 : decode cX9_feed 50 = .ok (.imul, 1) := by decide +kernel
theorem dX9_feed_51 : decode cX9_feed 51 = .ok (.lushr, 1) := by decide +kernel
theorem dX9_feed_52 : decode cX9_feed 52 = .ok (.l2i, 1) := by decide +kernel
theorem dX9_feed_53 : decode cX9_feed 53 = .ok (.invokevirtual 94, 3) := by decide +kernel
theorem dX9_feed_56 : decode cX9_feed 56 = .ok (.iinc 4 1, 3) := by decide +kernel
theorem dX9_feed_59 : decode cX9_feed 59 = .ok (.goto (-24), 3) := by decide +kernel
theorem dX9_feed_62 : decode cX9_feed 62 = .ok (.aload_n 0, 1) := by decide +kernel
theorem dX9_feed_63 : decode cX9_feed 63 = .ok (.getfield 44, 3) := by decide +kernel
theorem dX9_feed_66 : decode cX9_feed 66 = .ok (.getfield 209, 3) := by decide +kernel
theorem dX9_feed_69 : decode cX9_feed 69 = .ok (.ireturn, 1) := by decide +kernel
theorem dX9_text_0 : decode cX9_text 0 = .ok (.aload_n 0, 1) := by decide +kernel
theorem dX9_text_1 : decode cX9_text 1 = .ok (.getfield 102, 3) := by decide +kernel
theorem dX9_text_4 : decode cX9_text 4 = .ok (.bipush 6, 2) := by decide +kernel
theorem dX9_text_6 : decode cX9_text 6 = .ok (.if_icmp .lt 6, 3) := by decide +kernel
theorem dX9_text_9 : decode cX9_text 9 = .ok (.bipush (-4), 2) := by decide +kernel
theorem dX9_text_11 : decode cX9_text 11 = .ok (.ireturn, 1) := by decide +kernel
theorem dX9_text_12 : decode cX9_text 12 = .ok (.aload_n 0, 1) := by decide +kernel
theorem dX9_text_13 : decode cX9_text 13 = .ok (.getfield 44, 3) := by decide +kernel
theorem dX9_text_16 : decode cX9_text 16 = .ok (.invokevirtual 98, 3) := by decide +kernel
theorem dX9_text_19 : decode cX9_text 19 = .ok (.astore_n 1, 1) := by decide +kernel
theorem dX9_text_20 : decode cX9_text 20 = .ok (.aload_n 1, 1) := by decide +kernel
theorem dX9_text_21 : decode cX9_text 21 = .ok (.ifnonnull 14, 3) := by decide +kernel
theorem dX9_text_24 : decode cX9_text 24 = .ok (.bipush (-100), 2) := by decide +kernel
theorem dX9_text_26 : decode cX9_text 26 = .ok (.aload_n 0, 1) := by decide +kernel
theorem dX9_text_27 : decode cX9_text 27 = .ok (.getfield 44, 3) := by decide +kernel
theorem dX9_text_30 : decode cX9_text 30 = .ok (.getfield 210, 3) := by decide +kernel
theorem dX9_text_33 : decode cX9_text 33 = .ok (.isub, 1) := by decide +kernel
theorem dX9_text_34 : decode cX9_text 34 = .ok (.ireturn, 1) := by decide +kernel
theorem dX9_text_35 : decode cX9_text 35 = .ok (.aload_n 0, 1) := by decide +kernel
theorem dX9_text_36 : decode cX9_text 36 = .ok (.getfield 23, 3) := by decide +kernel
theorem dX9_text_39 : decode cX9_text 39 = .ok (.aload_n 0, 1) := by decide +kernel
theorem dX9_text_40 : decode cX9_text 40 = .ok (.getfield 102, 3) := by decide +kernel
theorem dX9_text_43 : decode cX9_text 43 = .ok (.aload_n 1, 1) := by decide +kernel
theorem dX9_text_44 : decode cX9_text 44 = .ok (.aastore, 1) := by decide +kernel
theorem dX9_text_45 : decode cX9_text 45 = .ok (.aload_n 0, 1) := by decide +kernel
theorem dX9_text_46 : decode cX9_text 46 = .ok (.dup, 1) := by decide +kernel
theorem dX9_text_47 : decode cX9_text 47 = .ok (.getfield 102, 3) := by decide +kernel
theorem dX9_text_50 : decode cX9_text 50 = .ok (.iconst 1, 1) := by decide +kernel
theorem dX9_text_51 : decode cX9_text 51 = .ok (.iadd, 1) := by decide +kernel
theorem dX9_text_52 : decode cX9_text 52 = .ok (.putfield 102, 3) := by decide +kernel
theorem dX9_text_55 : decode cX9_text 55 = .ok (.aload_n 0, 1) := by decide +kernel
theorem dX9_text_56 : decode cX9_text 56 = .ok (.getfield 102, 3) := by decide +kernel
theorem dX9_text_59 : decode cX9_text 59 = .ok (.iconst 1, 1) := by decide +kernel
theorem dX9_text_60 : decode cX9_text 60 = .ok (.isub, 1) := by decide +kernel
theorem dX9_text_61 : decode cX9_text 61 = .ok (.ireturn, 1) := by decide +kernel
theorem dX9_force_0 : decode cX9_force 0 = .ok (.iload_n 1, 1) := by decide +kernel
theorem dX9_force_1 : decode cX9_force 1 = .ok (.aload_n 0, 1) := by decide +kernel
theorem dX9_force_2 : decode cX9_force 2 = .ok (.getfield 102, 3) := by decide +kernel
theorem dX9_force_5 : decode cX9_force 5 = .ok (.invokestatic 136, 3) := by decide +kernel
theorem dX9_force_8 : decode cX9_force 8 = .ok (.ifCond .ne 6, 3) := by decide +kernel
theorem dX9_force_11 : decode cX9_force 11 = .ok (.bipush (-2), 2) := by decide +kernel
theorem dX9_force_13 : decode cX9_force 13 = .ok (.ireturn, 1) := by decide +kernel
theorem dX9_force_14 : decode cX9_force 14 = .ok (.aload_n 0, 1) := by decide +kernel
theorem dX9_force_15 : decode cX9_force 15 = .ok (.getfield 213, 3) := by decide +kernel
theorem dX9_force_18 : decode cX9_force 18 = .ok (.istore_n 2, 1) := by decide +kernel
theorem dX9_force_19 : decode cX9_force 19 = .ok (.aload_n 0, 1) := by decide +kernel
theorem dX9_force_20 : decode cX9_force 20 = .ok (.iload_n 1, 1) := by decide +kernel
theorem dX9_force_21 : decode cX9_force 21 = .ok (.putfield 213, 3) := by decide +kernel
theorem dX9_force_24 : decode cX9_force 24 = .ok (.iload_n 2, 1) := by decide +kernel
theorem dX9_force_25 : decode cX9_force 25 = .ok (.ireturn, 1) := by decide +kernel
theorem dX9_left_0 : decode cX9_left 0 = .ok (.aload_n 0, 1) := by decide +kernel
theorem dX9_left_1 : decode cX9_left 1 = .ok (.iload_n 1, 1) := by decide +kernel
theorem dX9_left_2 : decode cX9_left 2 = .ok (.invokevirtual 121, 3) := by decide +kernel
theorem dX9_left_5 : decode cX9_left 5 = .ok (.astore_n 3, 1) := by decide +kernel
theorem dX9_left_6 : decode cX9_left 6 = .ok (.aload_n 3, 1) := by decide +kernel
theorem dX9_left_7 : decode cX9_left 7 = .ok (.ifnonnull 6, 3) := by decide +kernel
theorem dX9_left_10 : decode cX9_left 10 = .ok (.bipush (-2), 2) := by decide +kernel
theorem dX9_left_12 : decode cX9_left 12 = .ok (.ireturn, 1) := by decide +kernel
theorem dX9_left_13 : decode cX9_left 13 = .ok (.iload_n 2, 1) := by decide +kernel
theorem dX9_left_14 : decode cX9_left 14 = .ok (.tableswitch 52 0 2 #[26, 31, 46], 26) := by decide +kernel
theorem dX9_left_40 : decode cX9_left 40 = .ok (.aload_n 3, 1) := by decide +kernel
theorem dX9_left_41 : decode cX9_left 41 = .ok (.invokevirtual 216, 3) := by decide +kernel
theorem dX9_left_44 : decode cX9_left 44 = .ok (.ireturn, 1) := by decide +kernel
theorem dX9_left_45 : decode cX9_left 45 = .ok (.iconst 0, 1) := by decide +kernel
theorem dX9_left_46 : decode cX9_left 46 = .ok (.aload_n 0, 1) := by decide +kernel
theorem dX9_left_47 : decode cX9_left 47 = .ok (.iload_n 1, 1) := by decide +kernel
theorem dX9_left_48 : decode cX9_left 48 = .ok (.invokevirtual 219, 3) := by decide +kernel
theorem dX9_left_51 : decode cX9_left 51 = .ok (.aload_n 3, 1) := by decide +kernel
theorem dX9_left_52 : decode cX9_left 52 = .ok (.invokevirtual 216, 3) := by decide +kernel
theorem dX9_left_55 : decode cX9_left 55 = .ok (.isub, 1) := by decide +kernel
theorem dX9_left_56 : decode cX9_left 56 = .ok (.invokestatic 222, 3) := by decide +kernel
theorem dX9_left_59 : decode cX9_left 59 = .ok (.ireturn, 1) := by decide +kernel
theorem dX9_left_60 : decode cX9_left 60 = .ok (.aload_n 0, 1) := by decide +kernel
theorem dX9_left_61 : decode cX9_left 61 = .ok (.iload_n 1, 1) := by decide +kernel
theorem dX9_left_62 : decode cX9_left 62 = .ok (.invokevirtual 219, 3) := by decide +kernel
theorem dX9_left_65 : decode cX9_left 65 = .ok (.ireturn, 1) := by decide +kernel
theorem dX9_left_66 : decode cX9_left 66 = .ok (.bipush (-2), 2) := by decide +kernel
theorem dX9_left_68 : decode cX9_left 68 = .ok (.ireturn, 1) := by decide +kernel
theorem dX9_odds_0 : decode cX9_odds 0 = .ok (.aload_n 0, 1) := by decide +kernel
theorem dX9_odds_1 : decode cX9_odds 1 = .ok (.iload_n 1, 1) := by decide +kernel
theorem dX9_odds_2 : decode cX9_odds 2 = .ok (.invokevirtual 148, 3) := by decide +kernel
theorem dX9_odds_5 : decode cX9_odds 5 = .ok (.astore_n 3, 1) := by decide +kernel
theorem dX9_odds_6 : decode cX9_odds 6 = .ok (.aload_n 3, 1) := by decide +kernel
theorem dX9_odds_7 : decode cX9_odds 7 = .ok (.ifnull 11, 3) := by decide +kernel
theorem dX9_odds_10 : decode cX9_odds 10 = .ok (.iload_n 2, 1) := by decide +kernel
theorem dX9_odds_11 : decode cX9_odds 11 = .ok (.iconst 2, 1) := by decide +kernel
theorem dX9_odds_12 : decode cX9_odds 12 = .ok (.invokestatic 136, 3) := by decide +kernel
theorem dX9_odds_15 : decode cX9_odds 15 = .ok (.ifCond .ne 7, 3) := by decide +kernel
theorem dX9_odds_18 : decode cX9_odds 18 = .ok (.ldc2_w 227, 3) := by decide +kernel
theorem dX9_odds_21 : decode cX9_odds 21 = .ok (.lreturn, 1) := by decide +kernel
theorem dX9_odds_22 : decode cX9_odds 22 = .ok (.aload_n 0, 1) := by decide +kernel
theorem dX9_odds_23 : decode cX9_odds 23 = .ok (.aload_n 3, 1) := by decide +kernel
theorem dX9_odds_24 : decode cX9_odds 24 = .ok (.invokevirtual 169, 3) := by decide +kernel
theorem dX9_odds_27 : decode cX9_odds 27 = .ok (.ifCond .eq 6, 3) := by decide +kernel
theorem dX9_odds_30 : decode cX9_odds 30 = .ok (.iload_n 2, 1) := by decide +kernel
theorem dX9_odds_31 : decode cX9_odds 31 = .ok (.i2l, 1) := by decide +kernel
theorem dX9_odds_32 : decode cX9_odds 32 = .ok (.lreturn, 1) := by decide +kernel
theorem dX9_odds_33 : decode cX9_odds 33 = .ok (.aload_n 0, 1) := by decide +kernel
theorem dX9_odds_34 : decode cX9_odds 34 = .ok (.aload_n 3, 1) := by decide +kernel
theorem dX9_odds_35 : decode cX9_odds 35 = .ok (.iconst 0, 1) := by decide +kernel
theorem dX9_odds_36 : decode cX9_odds 36 = .ok (.invokevirtual 183, 3) := by decide +kernel
theorem dX9_odds_39 : decode cX9_odds 39 = .ok (.istore 4, 2) := by decide +kernel
theorem dX9_odds_41 : decode cX9_odds 41 = .ok (.iconst 1, 1) := by decide +kernel
theorem dX9_odds_42 : decode cX9_odds 42 = .ok (.invokestatic 176, 3) := by decide +kernel
theorem dX9_odds_45 : decode cX9_odds 45 = .ok (.bipush 100, 2) := by decide +kernel
theorem dX9_odds_47 : decode cX9_odds 47 = .ok (.iload 4, 2) := by decide +kernel
theorem dX9_odds_49 : decode cX9_odds 49 = .ok (.isub, 1) := by decide +kernel
theorem dX9_odds_50 : decode cX9_odds 50 = .ok (.imul, 1) := by decide +kernel
theorem dX9_odds_51 : decode cX9_odds 51 = .ok (.istore 5, 2) := by decide +kernel
theorem dX9_odds_53 : decode cX9_odds 53 = .ok (.aload_n 3, 1) := by decide +kernel
theorem dX9_odds_54 : decode cX9_odds 54 = .ok (.getfield 152, 3) := by decide +kernel
theorem dX9_odds_57 : decode cX9_odds 57 = .ok (.iconst 1, 1) := by decide +kernel
theorem dX9_odds_58 : decode cX9_odds 58 = .ok (.invokestatic 229, 3) := by decide +kernel
theorem dX9_odds_61 : decode cX9_odds 61 = .ok (.ifCond .eq 7, 3) := by decide +kernel
theorem dX9_odds_64 : decode cX9_odds 64 = .ok (.iconst 5, 1) := by decide +kernel
theorem dX9_odds_65 : decode cX9_odds 65 = .ok (.goto 7, 3) := by decide +kernel
theorem dX9_odds_68 : decode cX9_odds 68 = .ok (.aload_n 3, 1) := by decide +kernel
theorem dX9_odds_69 : decode cX9_odds 69 = .ok (.getfield 152, 3) := by decide +kernel
theorem dX9_odds_72 : decode cX9_odds 72 = .ok (.invokestatic 176, 3) := by decide +kernel
theorem dX9_odds_75 : decode cX9_odds 75 = .ok (.iload 4, 2) := by decide +kernel
theorem dX9_odds_77 : decode cX9_odds 77 = .ok (.iconst 1, 1) := by decide +kernel
theorem dX9_odds_78 : decode cX9_odds 78 = .ok (.iadd, 1) := by decide +kernel
theorem dX9_odds_79 : decode cX9_odds 79 = .ok (.imul, 1) := by decide +kernel
theorem dX9_odds_80 : decode cX9_odds 80 = .ok (.istore 6, 2) := by decide +kernel
theorem dX9_odds_82 : decode cX9_odds 82 = .ok (.iload 5, 2) := by decide +kernel
theorem dX9_odds_84 : decode cX9_odds 84 = .ok (.iload 5, 2) := by decide +kernel
theorem dX9_odds_86 : decode cX9_odds 86 = .ok (.iload 6, 2) := by decide +kernel
theorem dX9_odds_88 : decode cX9_odds 88 = .ok (.iadd, 1) := by decide +kernel
theorem dX9_odds_89 : decode cX9_odds 89 = .ok (.invokestatic 232, 3) := by decide +kernel
theorem dX9_odds_92 : decode cX9_odds 92 = .ok (.istore 7, 2) := by decide +kernel
theorem dX9_odds_94 : decode cX9_odds 94 = .ok (.iload 7, 2) := by decide +kernel
theorem dX9_odds_96 : decode cX9_odds 96 = .ok (.ifCond .ne 6, 3) := by decide +kernel
theorem dX9_odds_99 : decode cX9_odds 99 = .ok (.iload_n 2, 1) := by decide +kernel
theorem dX9_odds_100 : decode cX9_odds 100 = .ok (.i2l, 1) := by decide +kernel
theorem dX9_odds_101 : decode cX9_odds 101 = .ok (.lreturn, 1) := by decide +kernel
theorem dX9_odds_102 : decode cX9_odds 102 = .ok (.iload_n 2, 1) := by decide +kernel
theorem dX9_odds_103 : decode cX9_odds 103 = .ok (.ifCond .ne 8, 3) := by decide +kernel
theorem dX9_odds_106 : decode cX9_odds 106 = .ok (.iload 5, 2) := by decide +kernel
theorem dX9_odds_108 : decode cX9_odds 108 = .ok (.goto 8, 3) := by decide +kernel
theorem dX9_odds_111 : decode cX9_odds 111 = .ok (.iload 5, 2) := by decide +kernel
theorem dX9_odds_113 : decode cX9_odds 113 = .ok (.iload 6, 2) := by decide +kernel
theorem dX9_odds_115 : decode cX9_odds 115 = .ok (.iadd, 1) := by decide +kernel
theorem dX9_odds_116 : decode cX9_odds 116 = .ok (.iload 7, 2) := by decide +kernel
theorem dX9_odds_118 : decode cX9_odds 118 = .ok (.idiv, 1) := by decide +kernel
theorem dX9_odds_119 : decode cX9_odds 119 = .ok (.i2l, 1) := by decide +kernel
theorem dX9_odds_120 : decode cX9_odds 120 = .ok (.lreturn, 1) := by decide +kernel
theorem dX9_source_0 : decode cX9_source 0 = .ok (.iload_n 1, 1) := by decide +kernel
theorem dX9_source_1 : decode cX9_source 1 = .ok (.bipush 9, 2) := by decide +kernel
theorem dX9_source_3 : decode cX9_source 3 = .ok (.invokestatic 106, 3) := by decide +kernel
theorem dX9_source_6 : decode cX9_source 6 = .ok (.ifCond .eq 11, 3) := by decide +kernel
theorem dX9_source_9 : decode cX9_source 9 = .ok (.iload_n 2, 1) := by decide +kernel
theorem dX9_source_10 : decode cX9_source 10 = .ok (.iconst 2, 1) := by decide +kernel
theorem dX9_source_11 : decode cX9_source 11 = .ok (.invokestatic 136, 3) := by decide +kernel
theorem dX9_source_14 : decode cX9_source 14 = .ok (.ifCond .ne 6, 3) := by decide +kernel
theorem dX9_source_17 : decode cX9_source 17 = .ok (.bipush (-2), 2) := by decide +kernel
theorem dX9_source_19 : decode cX9_source 19 = .ok (.ireturn, 1) := by decide +kernel
theorem dX9_source_20 : decode cX9_source 20 = .ok (.aload_n 0, 1) := by decide +kernel
theorem dX9_source_21 : decode cX9_source 21 = .ok (.iload_n 1, 1) := by decide +kernel
theorem dX9_source_22 : decode cX9_source 22 = .ok (.iload_n 2, 1) := by decide +kernel
theorem dX9_source_23 : decode cX9_source 23 = .ok (.iconst 1, 1) := by decide +kernel
theorem dX9_source_24 : decode cX9_source 24 = .ok (.if_icmp .ne 7, 3) := by decide +kernel
theorem dX9_source_27 : decode cX9_source 27 = .ok (.iconst 1, 1) := by decide +kernel
theorem dX9_source_28 : decode cX9_source 28 = .ok (.goto 4, 3) := by decide +kernel
theorem dX9_source_31 : decode cX9_source 31 = .ok (.iconst 0, 1) := by decide +kernel
theorem dX9_source_32 : decode cX9_source 32 = .ok (.invokevirtual 235, 3) := by decide +kernel
theorem dX9_source_35 : decode cX9_source 35 = .ok (.ireturn, 1) := by decide +kernel
theorem dX9_worst_0 : decode cX9_worst 0 = .ok (.iconst (-1), 1) := by decide +kernel
theorem dX9_worst_1 : decode cX9_worst 1 = .ok (.istore_n 1, 1) := by decide +kernel
theorem dX9_worst_2 : decode cX9_worst 2 = .ok (.iconst 0, 1) := by decide +kernel
theorem dX9_worst_3 : decode cX9_worst 3 = .ok (.istore_n 2, 1) := by decide +kernel
theorem dX9_worst_4 : decode cX9_worst 4 = .ok (.iconst 0, 1) := by decide +kernel
theorem dX9_worst_5 : decode cX9_worst 5 = .ok (.istore_n 3, 1) := by decide +kernel
theorem dX9_worst_6 : decode cX9_worst 6 = .ok (.iconst 0, 1) := by decide +kernel
theorem dX9_worst_7 : decode cX9_worst 7 = .ok (.istore 4, 2) := by decide +kernel
theorem dX9_worst_9 : decode cX9_worst 9 = .ok (.iload 4, 2) := by decide +kernel
theorem dX9_worst_11 : decode cX9_worst 11 = .ok (.bipush 9, 2) := by decide +kernel
theorem dX9_worst_13 : decode cX9_worst 13 = .ok (.if_icmp .gt 73, 3) := by decide +kernel
theorem dX9_worst_16 : decode cX9_worst 16 = .ok (.aload_n 0, 1) := by decide +kernel
theorem dX9_worst_17 : decode cX9_worst 17 = .ok (.iload 4, 2) := by decide +kernel
theorem dX9_worst_19 : decode cX9_worst 19 = .ok (.iconst 0, 1) := by decide +kernel
theorem dX9_worst_20 : decode cX9_worst 20 = .ok (.invokevirtual 235, 3) := by decide +kernel
theorem dX9_worst_23 : decode cX9_worst 23 = .ok (.istore 5, 2) := by decide +kernel
theorem dX9_worst_25 : decode cX9_worst 25 = .ok (.aload_n 0, 1) := by decide +kernel
theorem dX9_worst_26 : decode cX9_worst 26 = .ok (.iload 4, 2) := by decide +kernel
theorem dX9_worst_28 : decode cX9_worst 28 = .ok (.iconst 1, 1) := by decide +kernel
theorem dX9_worst_29 : decode cX9_worst 29 = .ok (.invokevirtual 235, 3) := by decide +kernel
theorem dX9_worst_32 : decode cX9_worst 32 = .ok (.istore 6, 2) := by decide +kernel
theorem dX9_worst_34 : decode cX9_worst 34 = .ok (.iload 6, 2) := by decide +kernel
theorem dX9_worst_36 : decode cX9_worst 36 = .ok (.iload_n 2, 1) := by decide +kernel
theorem dX9_worst_37 : decode cX9_worst 37 = .ok (.imul, 1) := by decide +kernel
theorem dX9_worst_38 : decode cX9_worst 38 = .ok (.iload_n 3, 1) := by decide +kernel
theorem dX9_worst_39 : decode cX9_worst 39 = .ok (.iload 5, 2) := by decide +kernel
theorem dX9_worst_41 : decode cX9_worst 41 = .ok (.imul, 1) := by decide +kernel
theorem dX9_worst_42 : decode cX9_worst 42 = .ok (.isub, 1) := by decide +kernel
theorem dX9_worst_43 : decode cX9_worst 43 = .ok (.istore 7, 2) := by decide +kernel
theorem dX9_worst_45 : decode cX9_worst 45 = .ok (.iload 5, 2) := by decide +kernel
theorem dX9_worst_47 : decode cX9_worst 47 = .ok (.ifCond .le 33, 3) := by decide +kernel
theorem dX9_worst_50 : decode cX9_worst 50 = .ok (.iload_n 1, 1) := by decide +kernel
theorem dX9_worst_51 : decode cX9_worst 51 = .ok (.iconst (-1), 1) := by decide +kernel
theorem dX9_worst_52 : decode cX9_worst 52 = .ok (.if_icmp .eq 19, 3) := by decide +kernel
theorem dX9_worst_55 : decode cX9_worst 55 = .ok (.iload 7, 2) := by decide +kernel
theorem dX9_worst_57 : decode cX9_worst 57 = .ok (.ifCond .gt 14, 3) := by decide +kernel
theorem dX9_worst_60 : decode cX9_worst 60 = .ok (.iload 7, 2) := by decide +kernel
theorem dX9_worst_62 : decode cX9_worst 62 = .ok (.ifCond .ne 18, 3) := by decide +kernel
theorem dX9_worst_65 : decode cX9_worst 65 = .ok (.iload 5, 2) := by decide +kernel
theorem dX9_worst_67 : decode cX9_worst 67 = .ok (.iload_n 2, 1) := by decide +kernel
theorem dX9_worst_68 : decode cX9_worst 68 = .ok (.if_icmp .le 12, 3) := by decide +kernel
theorem dX9_worst_71 : decode cX9_worst 71 = .ok (.iload 4, 2) := by decide +kernel
theorem dX9_worst_73 : decode cX9_worst 73 = .ok (.istore_n 1, 1) := by decide +kernel
theorem dX9_worst_74 : decode cX9_worst 74 = .ok (.iload 5, 2) := by decide +kernel
theorem dX9_worst_76 : decode cX9_worst 76 = .ok (.istore_n 2, 1) := by decide +kernel
theorem dX9_worst_77 : decode cX9_worst 77 = .ok (.iload 6, 2) := by decide +kernel
theorem dX9_worst_79 : decode cX9_worst 79 = .ok (.istore_n 3, 1) := by decide +kernel
theorem dX9_worst_80 : decode cX9_worst 80 = .ok (.iinc 4 1, 3) := by decide +kernel
theorem dX9_worst_83 : decode cX9_worst 83 = .ok (.goto (-74), 3) := by decide +kernel
theorem dX9_worst_86 : decode cX9_worst 86 = .ok (.iload_n 1, 1) := by decide +kernel
theorem dX9_worst_87 : decode cX9_worst 87 = .ok (.ireturn, 1) := by decide +kernel
theorem dX9_mix_0 : decode cX9_mix 0 = .ok (.aload_n 0, 1) := by decide +kernel
theorem dX9_mix_1 : decode cX9_mix 1 = .ok (.iload_n 1, 1) := by decide +kernel
theorem dX9_mix_2 : decode cX9_mix 2 = .ok (.invokevirtual 121, 3) := by decide +kernel
theorem dX9_mix_5 : decode cX9_mix 5 = .ok (.astore 5, 2) := by decide +kernel
theorem dX9_mix_7 : decode cX9_mix 7 = .ok (.aload_n 0, 1) := by decide +kernel
theorem dX9_mix_8 : decode cX9_mix 8 = .ok (.iload_n 2, 1) := by decide +kernel
theorem dX9_mix_9 : decode cX9_mix 9 = .ok (.invokevirtual 121, 3) := by decide +kernel
theorem dX9_mix_12 : decode cX9_mix 12 = .ok (.astore 6, 2) := by decide +kernel
theorem dX9_mix_14 : decode cX9_mix 14 = .ok (.aload_n 0, 1) := by decide +kernel
theorem dX9_mix_15 : decode cX9_mix 15 = .ok (.iload_n 3, 1) := by decide +kernel
theorem dX9_mix_16 : decode cX9_mix 16 = .ok (.invokevirtual 121, 3) := by decide +kernel
theorem dX9_mix_19 : decode cX9_mix 19 = .ok (.astore 7, 2) := by decide +kernel
theorem dX9_mix_21 : decode cX9_mix 21 = .ok (.aload 5, 2) := by decide +kernel
theorem dX9_mix_23 : decode cX9_mix 23 = .ok (.ifnull 27, 3) := by decide +kernel
theorem dX9_mix_26 : decode cX9_mix 26 = .ok (.aload 6, 2) := by decide +kernel
theorem dX9_mix_28 : decode cX9_mix 28 = .ok (.ifnull 22, 3) := by decide +kernel
theorem dX9_mix_31 : decode cX9_mix 31 = .ok (.aload 7, 2) := by decide +kernel
theorem dX9_mix_33 : decode cX9_mix 33 = .ok (.ifnull 17, 3) := by decide +kernel
theorem dX9_mix_36 : decode cX9_mix 36 = .ok (.iload_n 1, 1) := by decide +kernel
theorem dX9_mix_37 : decode cX9_mix 37 = .ok (.iload_n 2, 1) := by decide +kernel
theorem dX9_mix_38 : decode cX9_mix 38 = .ok (.if_icmp .eq 12, 3) := by decide +kernel
theorem dX9_mix_41 : decode cX9_mix 41 = .ok (.iload 4, 2) := by decide +kernel
theorem dX9_mix_43 : decode cX9_mix 43 = .ok (.iconst 2, 1) := by decide +kernel
theorem dX9_mix_44 : decode cX9_mix 44 = .ok (.invokestatic 136, 3) := by decide +kernel
theorem dX9_mix_47 : decode cX9_mix 47 = .ok (.ifCond .ne 6, 3) := by decide +kernel
theorem dX9_mix_50 : decode cX9_mix 50 = .ok (.bipush (-2), 2) := by decide +kernel
theorem dX9_mix_52 : decode cX9_mix 52 = .ok (.ireturn, 1) := by decide +kernel
theorem dX9_mix_53 : decode cX9_mix 53 = .ok (.iconst 0, 1) := by decide +kernel
theorem dX9_mix_54 : decode cX9_mix 54 = .ok (.istore 8, 2) := by decide +kernel
theorem dX9_mix_56 : decode cX9_mix 56 = .ok (.aload 5, 2) := by decide +kernel
theorem dX9_mix_58 : decode cX9_mix 58 = .ok (.aload 6, 2) := by decide +kernel
theorem dX9_mix_60 : decode cX9_mix 60 = .ok (.iconst 0, 1) := by decide +kernel
theorem dX9_mix_61 : decode cX9_mix 61 = .ok (.aload 7, 2) := by decide +kernel
theorem dX9_mix_63 : decode cX9_mix 63 = .ok (.invokestatic 239, 3) := by decide +kernel
theorem dX9_mix_66 : decode cX9_mix 66 = .ok (.istore 9, 2) := by decide +kernel
theorem dX9_mix_68 : decode cX9_mix 68 = .ok (.iconst 1, 1) := by decide +kernel
theorem dX9_mix_69 : decode cX9_mix 69 = .ok (.istore 10, 2) := by decide +kernel
theorem dX9_mix_71 : decode cX9_mix 71 = .ok (.iload 10, 2) := by decide +kernel
theorem dX9_mix_73 : decode cX9_mix 73 = .ok (.bipush 10, 2) := by decide +kernel
theorem dX9_mix_75 : decode cX9_mix 75 = .ok (.if_icmp .gt 37, 3) := by decide +kernel
theorem dX9_mix_78 : decode cX9_mix 78 = .ok (.aload 5, 2) := by decide +kernel
theorem dX9_mix_80 : decode cX9_mix 80 = .ok (.aload 6, 2) := by decide +kernel
theorem dX9_mix_82 : decode cX9_mix 82 = .ok (.iload 10, 2) := by decide +kernel
theorem dX9_mix_84 : decode cX9_mix 84 = .ok (.aload 7, 2) := by decide +kernel
theorem dX9_mix_86 : decode cX9_mix 86 = .ok (.invokestatic 239, 3) := by decide +kernel
theorem dX9_mix_89 : decode cX9_mix 89 = .ok (.istore 11, 2) := by decide +kernel
theorem dX9_mix_91 : decode cX9_mix 91 = .ok (.iload 11, 2) := by decide +kernel
theorem dX9_mix_93 : decode cX9_mix 93 = .ok (.iload 9, 2) := by decide +kernel
theorem dX9_mix_95 : decode cX9_mix 95 = .ok (.if_icmp .ge 11, 3) := by decide +kernel
theorem dX9_mix_98 : decode cX9_mix 98 = .ok (.iload 10, 2) := by decide +kernel
theorem dX9_mix_100 : decode cX9_mix 100 = .ok (.istore 8, 2) := by decide +kernel
theorem dX9_mix_102 : decode cX9_mix 102 = .ok (.iload 11, 2) := by decide +kernel
theorem dX9_mix_104 : decode cX9_mix 104 = .ok (.istore 9, 2) := by decide +kernel
theorem dX9_mix_106 : decode cX9_mix 106 = .ok (.iinc 10 1, 3) := by decide +kernel
theorem dX9_mix_109 : decode cX9_mix 109 = .ok (.goto (-38), 3) := by decide +kernel
theorem dX9_mix_112 : decode cX9_mix 112 = .ok (.iload 4, 2) := by decide +kernel
theorem dX9_mix_114 : decode cX9_mix 114 = .ok (.ifCond .ne 8, 3) := by decide +kernel
theorem dX9_mix_117 : decode cX9_mix 117 = .ok (.iload 8, 2) := by decide +kernel
theorem dX9_mix_119 : decode cX9_mix 119 = .ok (.goto 5, 3) := by decide +kernel
theorem dX9_mix_122 : decode cX9_mix 122 = .ok (.iload 9, 2) := by decide +kernel
theorem dX9_mix_124 : decode cX9_mix 124 = .ok (.ireturn, 1) := by decide +kernel
theorem dX9_said_0 : decode cX9_said 0 = .ok (.aload_n 0, 1) := by decide +kernel
theorem dX9_said_1 : decode cX9_said 1 = .ok (.iload_n 1, 1) := by decide +kernel
theorem dX9_said_2 : decode cX9_said 2 = .ok (.invokevirtual 243, 3) := by decide +kernel
theorem dX9_said_5 : decode cX9_said 5 = .ok (.astore 5, 2) := by decide +kernel
theorem dX9_said_7 : decode cX9_said 7 = .ok (.aload_n 0, 1) := by decide +kernel
theorem dX9_said_8 : decode cX9_said 8 = .ok (.iload_n 2, 1) := by decide +kernel
theorem dX9_said_9 : decode cX9_said 9 = .ok (.invokevirtual 148, 3) := by decide +kernel
theorem dX9_said_12 : decode cX9_said 12 = .ok (.astore 6, 2) := by decide +kernel
theorem dX9_said_14 : decode cX9_said 14 = .ok (.aload 5, 2) := by decide +kernel
theorem dX9_said_16 : decode cX9_said 16 = .ok (.ifnull 28, 3) := by decide +kernel
theorem dX9_said_19 : decode cX9_said 19 = .ok (.aload 6, 2) := by decide +kernel
theorem dX9_said_21 : decode cX9_said 21 = .ok (.ifnull 23, 3) := by decide +kernel
theorem dX9_said_24 : decode cX9_said 24 = .ok (.iload_n 3, 1) := by decide +kernel
theorem dX9_said_25 : decode cX9_said 25 = .ok (.iconst 2, 1) := by decide +kernel
theorem dX9_said_26 : decode cX9_said 26 = .ok (.invokestatic 136, 3) := by decide +kernel
theorem dX9_said_29 : decode cX9_said 29 = .ok (.ifCond .eq 15, 3) := by decide +kernel
theorem dX9_said_32 : decode cX9_said 32 = .ok (.iload 4, 2) := by decide +kernel
theorem dX9_said_34 : decode cX9_said 34 = .ok (.aload_n 0, 1) := by decide +kernel
theorem dX9_said_35 : decode cX9_said 35 = .ok (.getfield 115, 3) := by decide +kernel
theorem dX9_said_38 : decode cX9_said 38 = .ok (.invokestatic 136, 3) := by decide +kernel
theorem dX9_said_41 : decode cX9_said 41 = .ok (.ifCond .ne 6, 3) := by decide +kernel
theorem dX9_said_44 : decode cX9_said 44 = .ok (.bipush (-2), 2) := by decide +kernel
theorem dX9_said_46 : decode cX9_said 46 = .ok (.ireturn, 1) := by decide +kernel
theorem dX9_said_47 : decode cX9_said 47 = .ok (.aload 5, 2) := by decide +kernel
theorem dX9_said_49 : decode cX9_said 49 = .ok (.getfield 247, 3) := by decide +kernel
theorem dX9_said_52 : decode cX9_said 52 = .ok (.bipush 12, 2) := by decide +kernel
theorem dX9_said_54 : decode cX9_said 54 = .ok (.if_icmp .lt 6, 3) := by decide +kernel
theorem dX9_said_57 : decode cX9_said 57 = .ok (.bipush (-4), 2) := by decide +kernel
theorem dX9_said_59 : decode cX9_said 59 = .ok (.ireturn, 1) := by decide +kernel
theorem dX9_said_60 : decode cX9_said 60 = .ok (.aload 5, 2) := by decide +kernel
theorem dX9_said_62 : decode cX9_said 62 = .ok (.aload 6, 2) := by decide +kernel
theorem dX9_said_64 : decode cX9_said 64 = .ok (.invokevirtual 250, 3) := by decide +kernel
theorem dX9_said_67 : decode cX9_said 67 = .ok (.getfield 159, 3) := by decide +kernel
theorem dX9_said_70 : decode cX9_said 70 = .ok (.aload 6, 2) := by decide +kernel
theorem dX9_said_72 : decode cX9_said 72 = .ok (.getfield 155, 3) := by decide +kernel
theorem dX9_said_75 : decode cX9_said 75 = .ok (.getfield 159, 3) := by decide +kernel
theorem dX9_said_78 : decode cX9_said 78 = .ok (.iload_n 3, 1) := by decide +kernel
theorem dX9_said_79 : decode cX9_said 79 = .ok (.iconst 1, 1) := by decide +kernel
theorem dX9_said_80 : decode cX9_said 80 = .ok (.if_icmp .ne 7, 3) := by decide +kernel
theorem dX9_said_83 : decode cX9_said 83 = .ok (.iconst 1, 1) := by decide +kernel
theorem dX9_said_84 : decode cX9_said 84 = .ok (.goto 4, 3) := by decide +kernel
theorem dX9_said_87 : decode cX9_said 87 = .ok (.iconst 0, 1) := by decide +kernel
theorem dX9_said_88 : decode cX9_said 88 = .ok (.iload 4, 2) := by decide +kernel
theorem dX9_said_90 : decode cX9_said 90 = .ok (.invokevirtual 254, 3) := by decide +kernel
theorem dX9_said_93 : decode cX9_said 93 = .ok (.aload 5, 2) := by decide +kernel
theorem dX9_said_95 : decode cX9_said 95 = .ok (.getfield 247, 3) := by decide +kernel
theorem dX9_said_98 : decode cX9_said 98 = .ok (.ireturn, 1) := by decide +kernel
theorem dX9_tongue_0 : decode cX9_tongue 0 = .ok (.aload_n 0, 1) := by decide +kernel
theorem dX9_tongue_1 : decode cX9_tongue 1 = .ok (.iload_n 1, 1) := by decide +kernel
theorem dX9_tongue_2 : decode cX9_tongue 2 = .ok (.invokevirtual 243, 3) := by decide +kernel
theorem dX9_tongue_5 : decode cX9_tongue 5 = .ok (.astore_n 3, 1) := by decide +kernel
theorem dX9_tongue_6 : decode cX9_tongue 6 = .ok (.aload_n 3, 1) := by decide +kernel
theorem dX9_tongue_7 : decode cX9_tongue 7 = .ok (.ifnonnull 6, 3) := by decide +kernel
theorem dX9_tongue_10 : decode cX9_tongue 10 = .ok (.bipush (-2), 2) := by decide +kernel
theorem dX9_tongue_12 : decode cX9_tongue 12 = .ok (.ireturn, 1) := by decide +kernel
theorem dX9_tongue_13 : decode cX9_tongue 13 = .ok (.iload_n 2, 1) := by decide +kernel
theorem dX9_tongue_14 : decode cX9_tongue 14 = .ok (.tableswitch 50 0 3 #[30, 35, 40, 45], 30) := by decide +kernel
theorem dX9_tongue_44 : decode cX9_tongue 44 = .ok (.aload_n 3, 1) := by decide +kernel
theorem dX9_tongue_45 : decode cX9_tongue 45 = .ok (.getfield 258, 3) := by decide +kernel
theorem dX9_tongue_48 : decode cX9_tongue 48 = .ok (.ireturn, 1) := by decide +kernel
theorem dX9_tongue_49 : decode cX9_tongue 49 = .ok (.aload_n 3, 1) := by decide +kernel
theorem dX9_tongue_50 : decode cX9_tongue 50 = .ok (.getfield 261, 3) := by decide +kernel
theorem dX9_tongue_53 : decode cX9_tongue 53 = .ok (.ireturn, 1) := by decide +kernel
theorem dX9_tongue_54 : decode cX9_tongue 54 = .ok (.aload_n 3, 1) := by decide +kernel
theorem dX9_tongue_55 : decode cX9_tongue 55 = .ok (.getfield 264, 3) := by decide +kernel
theorem dX9_tongue_58 : decode cX9_tongue 58 = .ok (.ireturn, 1) := by decide +kernel
theorem dX9_tongue_59 : decode cX9_tongue 59 = .ok (.aload_n 3, 1) := by decide +kernel
theorem dX9_tongue_60 : decode cX9_tongue 60 = .ok (.getfield 267, 3) := by decide +kernel
theorem dX9_tongue_63 : decode cX9_tongue 63 = .ok (.ireturn, 1) := by decide +kernel
theorem dX9_tongue_64 : decode cX9_tongue 64 = .ok (.bipush (-2), 2) := by decide +kernel
theorem dX9_tongue_66 : decode cX9_tongue 66 = .ok (.ireturn, 1) := by decide +kernel
theorem dX9_opened_0 : decode cX9_opened 0 = .ok (.iload_n 1, 1) := by decide +kernel
theorem dX9_opened_1 : decode cX9_opened 1 = .ok (.sipush 999, 3) := by decide +kernel
theorem dX9_opened_4 : decode cX9_opened 4 = .ok (.invokestatic 106, 3) := by decide +kernel
theorem dX9_opened_7 : decode cX9_opened 7 = .ok (.ifCond .eq 11, 3) := by decide +kernel
theorem dX9_opened_10 : decode cX9_opened 10 = .ok (.iload_n 2, 1) := by decide +kernel
theorem dX9_opened_11 : decode cX9_opened 11 = .ok (.iconst 3, 1) := by decide +kernel
theorem dX9_opened_12 : decode cX9_opened 12 = .ok (.invokestatic 136, 3) := by decide +kernel
theorem dX9_opened_15 : decode cX9_opened 15 = .ok (.ifCond .ne 6, 3) := by decide +kernel
theorem dX9_opened_18 : decode cX9_opened 18 = .ok (.bipush (-2), 2) := by decide +kernel
theorem dX9_opened_20 : decode cX9_opened 20 = .ok (.ireturn, 1) := by decide +kernel
theorem dX9_opened_21 : decode cX9_opened 21 = .ok (.aload_n 0, 1) := by decide +kernel
theorem dX9_opened_22 : decode cX9_opened 22 = .ok (.invokevirtual 270, 3) := by decide +kernel
theorem dX9_opened_25 : decode cX9_opened 25 = .ok (.istore_n 3, 1) := by decide +kernel
theorem dX9_opened_26 : decode cX9_opened 26 = .ok (.iconst 0, 1) := by decide +kernel
theorem dX9_opened_27 : decode cX9_opened 27 = .ok (.istore 4, 2) := by decide +kernel
theorem dX9_opened_29 : decode cX9_opened 29 = .ok (.iconst 0, 1) := by decide +kernel
theorem dX9_opened_30 : decode cX9_opened 30 = .ok (.istore 5, 2) := by decide +kernel
theorem dX9_opened_32 : decode cX9_opened 32 = .ok (.iconst 0, 1) := by decide +kernel
theorem dX9_opened_33 : decode cX9_opened 33 = .ok (.istore 6, 2) := by decide +kernel
theorem dX9_opened_35 : decode cX9_opened 35 = .ok (.iconst 0, 1) := by decide +kernel
theorem dX9_opened_36 : decode cX9_opened 36 = .ok (.istore 7, 2) := by decide +kernel
theorem dX9_opened_38 : decode cX9_opened 38 = .ok (.iconst 0, 1) := by decide +kernel
theorem dX9_opened_39 : decode cX9_opened 39 = .ok (.istore 8, 2) := by decide +kernel
theorem dX9_opened_41 : decode cX9_opened 41 = .ok (.iconst 1, 1) := by decide +kernel
theorem dX9_opened_42 : decode cX9_opened 42 = .ok (.istore 9, 2) := by decide +kernel
theorem dX9_opened_44 : decode cX9_opened 44 = .ok (.iload 9, 2) := by decide +kernel
theorem dX9_opened_46 : decode cX9_opened 46 = .ok (.iconst 1, 1) := by decide +kernel
theorem dX9_opened_47 : decode cX9_opened 47 = .ok (.iload_n 3, 1) := by decide +kernel
theorem dX9_opened_48 : decode cX9_opened 48 = .ok (.ishl, 1) := by decide +kernel
theorem dX9_opened_49 : decode cX9_opened 49 = .ok (.if_icmp .ge 99, 3) := by decide +kernel
theorem dX9_opened_52 : decode cX9_opened 52 = .ok (.iload 9, 2) := by decide +kernel
theorem dX9_opened_54 : decode cX9_opened 54 = .ok (.invokestatic 273, 3) := by decide +kernel
theorem dX9_opened_57 : decode cX9_opened 57 = .ok (.istore 10, 2) := by decide +kernel
theorem dX9_opened_59 : decode cX9_opened 59 = .ok (.iload 7, 2) := by decide +kernel
theorem dX9_opened_61 : decode cX9_opened 61 = .ok (.aload_n 0, 1) := by decide +kernel
theorem dX9_opened_62 : decode cX9_opened 62 = .ok (.getfield 74, 3) := by decide +kernel
end
section
theorem dX9_opened_65 : decode cX9_opened 65 = .ok (.iload 10, 2) := by decide +kernel
theorem dX9_opened_67 : decode cX9_opened 67 = .ok (.iaload, 1) := by decide +kernel
theorem dX9_opened_68 : decode cX9_opened 68 = .ok (.aload_n 0, 1) := by decide +kernel
theorem dX9_opened_69 : decode cX9_opened 69 = .ok (.getfield 74, 3) := by decide +kernel
theorem dX9_opened_72 : decode cX9_opened 72 = .ok (.iload 10, 2) := by decide +kernel
theorem dX9_opened_74 : decode cX9_opened 74 = .ok (.invokestatic 276, 3) := by decide +kernel
theorem dX9_opened_77 : decode cX9_opened 77 = .ok (.isub, 1) := by decide +kernel
theorem dX9_opened_78 : decode cX9_opened 78 = .ok (.iadd, 1) := by decide +kernel
theorem dX9_opened_79 : decode cX9_opened 79 = .ok (.istore 7, 2) := by decide +kernel
theorem dX9_opened_81 : decode cX9_opened 81 = .ok (.iload 8, 2) := by decide +kernel
theorem dX9_opened_83 : decode cX9_opened 83 = .ok (.aload_n 0, 1) := by decide +kernel
theorem dX9_opened_84 : decode cX9_opened 84 = .ok (.getfield 77, 3) := by decide +kernel
theorem dX9_opened_87 : decode cX9_opened 87 = .ok (.iload 10, 2) := by decide +kernel
theorem dX9_opened_89 : decode cX9_opened 89 = .ok (.iaload, 1) := by decide +kernel
theorem dX9_opened_90 : decode cX9_opened 90 = .ok (.aload_n 0, 1) := by decide +kernel
theorem dX9_opened_91 : decode cX9_opened 91 = .ok (.getfield 77, 3) := by decide +kernel
theorem dX9_opened_94 : decode cX9_opened 94 = .ok (.iload 10, 2) := by decide +kernel
theorem dX9_opened_96 : decode cX9_opened 96 = .ok (.invokestatic 276, 3) := by decide +kernel
theorem dX9_opened_99 : decode cX9_opened 99 = .ok (.isub, 1) := by decide +kernel
theorem dX9_opened_100 : decode cX9_opened 100 = .ok (.iadd, 1) := by decide +kernel
theorem dX9_opened_101 : decode cX9_opened 101 = .ok (.istore 8, 2) := by decide +kernel
theorem dX9_opened_103 : decode cX9_opened 103 = .ok (.iload 8, 2) := by decide +kernel
theorem dX9_opened_105 : decode cX9_opened 105 = .ok (.iload_n 1, 1) := by decide +kernel
theorem dX9_opened_106 : decode cX9_opened 106 = .ok (.if_icmp .gt 36, 3) := by decide +kernel
theorem dX9_opened_109 : decode cX9_opened 109 = .ok (.iload 7, 2) := by decide +kernel
theorem dX9_opened_111 : decode cX9_opened 111 = .ok (.iload 5, 2) := by decide +kernel
theorem dX9_opened_113 : decode cX9_opened 113 = .ok (.if_icmp .gt 17, 3) := by decide +kernel
theorem dX9_opened_116 : decode cX9_opened 116 = .ok (.iload 7, 2) := by decide +kernel
theorem dX9_opened_118 : decode cX9_opened 118 = .ok (.iload 5, 2) := by decide +kernel
theorem dX9_opened_120 : decode cX9_opened 120 = .ok (.if_icmp .ne 22, 3) := by decide +kernel
theorem dX9_opened_123 : decode cX9_opened 123 = .ok (.iload 8, 2) := by decide +kernel
theorem dX9_opened_125 : decode cX9_opened 125 = .ok (.iload 6, 2) := by decide +kernel
theorem dX9_opened_127 : decode cX9_opened 127 = .ok (.if_icmp .ge 15, 3) := by decide +kernel
theorem dX9_opened_130 : decode cX9_opened 130 = .ok (.iload 9, 2) := by decide +kernel
theorem dX9_opened_132 : decode cX9_opened 132 = .ok (.istore 4, 2) := by decide +kernel
theorem dX9_opened_134 : decode cX9_opened 134 = .ok (.iload 7, 2) := by decide +kernel
theorem dX9_opened_136 : decode cX9_opened 136 = .ok (.istore 5, 2) := by decide +kernel
theorem dX9_opened_138 : decode cX9_opened 138 = .ok (.iload 8, 2) := by decide +kernel
theorem dX9_opened_140 : decode cX9_opened 140 = .ok (.istore 6, 2) := by decide +kernel
theorem dX9_opened_142 : decode cX9_opened 142 = .ok (.iinc 9 1, 3) := by decide +kernel
theorem dX9_opened_145 : decode cX9_opened 145 = .ok (.goto (-101), 3) := by decide +kernel
theorem dX9_opened_148 : decode cX9_opened 148 = .ok (.iload_n 2, 1) := by decide +kernel
theorem dX9_opened_149 : decode cX9_opened 149 = .ok (.ifCond .ne 8, 3) := by decide +kernel
theorem dX9_opened_152 : decode cX9_opened 152 = .ok (.iload 4, 2) := by decide +kernel
theorem dX9_opened_154 : decode cX9_opened 154 = .ok (.goto 15, 3) := by decide +kernel
theorem dX9_opened_157 : decode cX9_opened 157 = .ok (.iload_n 2, 1) := by decide +kernel
theorem dX9_opened_158 : decode cX9_opened 158 = .ok (.iconst 1, 1) := by decide +kernel
theorem dX9_opened_159 : decode cX9_opened 159 = .ok (.if_icmp .ne 8, 3) := by decide +kernel
theorem dX9_opened_162 : decode cX9_opened 162 = .ok (.iload 5, 2) := by decide +kernel
theorem dX9_opened_164 : decode cX9_opened 164 = .ok (.goto 5, 3) := by decide +kernel
theorem dX9_opened_167 : decode cX9_opened 167 = .ok (.iload 6, 2) := by decide +kernel
theorem dX9_opened_169 : decode cX9_opened 169 = .ok (.ireturn, 1) := by decide +kernel
theorem dX9_owed_0 : decode cX9_owed 0 = .ok (.iload_n 1, 1) := by decide +kernel
theorem dX9_owed_1 : decode cX9_owed 1 = .ok (.bipush 9, 2) := by decide +kernel
theorem dX9_owed_3 : decode cX9_owed 3 = .ok (.invokestatic 106, 3) := by decide +kernel
theorem dX9_owed_6 : decode cX9_owed 6 = .ok (.ifCond .ne 7, 3) := by decide +kernel
theorem dX9_owed_9 : decode cX9_owed 9 = .ok (.ldc2_w 227, 3) := by decide +kernel
theorem dX9_owed_12 : decode cX9_owed 12 = .ok (.lreturn, 1) := by decide +kernel
theorem dX9_owed_13 : decode cX9_owed 13 = .ok (.lconst 0, 1) := by decide +kernel
theorem dX9_owed_14 : decode cX9_owed 14 = .ok (.lstore_n 2, 1) := by decide +kernel
theorem dX9_owed_15 : decode cX9_owed 15 = .ok (.iconst 0, 1) := by decide +kernel
theorem dX9_owed_16 : decode cX9_owed 16 = .ok (.istore 4, 2) := by decide +kernel
theorem dX9_owed_18 : decode cX9_owed 18 = .ok (.iload 4, 2) := by decide +kernel
theorem dX9_owed_20 : decode cX9_owed 20 = .ok (.aload_n 0, 1) := by decide +kernel
theorem dX9_owed_21 : decode cX9_owed 21 = .ok (.getfield 37, 3) := by decide +kernel
theorem dX9_owed_24 : decode cX9_owed 24 = .ok (.getfield 199, 3) := by decide +kernel
theorem dX9_owed_27 : decode cX9_owed 27 = .ok (.if_icmp .ge 116, 3) := by decide +kernel
theorem dX9_owed_30 : decode cX9_owed 30 = .ok (.aload_n 0, 1) := by decide +kernel
theorem dX9_owed_31 : decode cX9_owed 31 = .ok (.getfield 37, 3) := by decide +kernel
theorem dX9_owed_34 : decode cX9_owed 34 = .ok (.getfield 280, 3) := by decide +kernel
theorem dX9_owed_37 : decode cX9_owed 37 = .ok (.iload 4, 2) := by decide +kernel
theorem dX9_owed_39 : decode cX9_owed 39 = .ok (.iaload, 1) := by decide +kernel
theorem dX9_owed_40 : decode cX9_owed 40 = .ok (.iload_n 1, 1) := by decide +kernel
theorem dX9_owed_41 : decode cX9_owed 41 = .ok (.if_icmp .ne 7, 3) := by decide +kernel
theorem dX9_owed_44 : decode cX9_owed 44 = .ok (.iconst 1, 1) := by decide +kernel
theorem dX9_owed_45 : decode cX9_owed 45 = .ok (.goto 4, 3) := by decide +kernel
theorem dX9_owed_48 : decode cX9_owed 48 = .ok (.iconst 0, 1) := by decide +kernel
theorem dX9_owed_49 : decode cX9_owed 49 = .ok (.istore 5, 2) := by decide +kernel
theorem dX9_owed_51 : decode cX9_owed 51 = .ok (.aload_n 0, 1) := by decide +kernel
theorem dX9_owed_52 : decode cX9_owed 52 = .ok (.getfield 37, 3) := by decide +kernel
theorem dX9_owed_55 : decode cX9_owed 55 = .ok (.getfield 283, 3) := by decide +kernel
theorem dX9_owed_58 : decode cX9_owed 58 = .ok (.iload 4, 2) := by decide +kernel
theorem dX9_owed_60 : decode cX9_owed 60 = .ok (.iaload, 1) := by decide +kernel
theorem dX9_owed_61 : decode cX9_owed 61 = .ok (.iload_n 1, 1) := by decide +kernel
theorem dX9_owed_62 : decode cX9_owed 62 = .ok (.if_icmp .ne 7, 3) := by decide +kernel
theorem dX9_owed_65 : decode cX9_owed 65 = .ok (.iconst 1, 1) := by decide +kernel
theorem dX9_owed_66 : decode cX9_owed 66 = .ok (.goto 4, 3) := by decide +kernel
theorem dX9_owed_69 : decode cX9_owed 69 = .ok (.iconst 0, 1) := by decide +kernel
theorem dX9_owed_70 : decode cX9_owed 70 = .ok (.istore 6, 2) := by decide +kernel
theorem dX9_owed_72 : decode cX9_owed 72 = .ok (.iload 5, 2) := by decide +kernel
theorem dX9_owed_74 : decode cX9_owed 74 = .ok (.ifCond .ne 8, 3) := by decide +kernel
theorem dX9_owed_77 : decode cX9_owed 77 = .ok (.iload 6, 2) := by decide +kernel
theorem dX9_owed_79 : decode cX9_owed 79 = .ok (.ifCond .eq 58, 3) := by decide +kernel
theorem dX9_owed_82 : decode cX9_owed 82 = .ok (.aload_n 0, 1) := by decide +kernel
theorem dX9_owed_83 : decode cX9_owed 83 = .ok (.aload_n 0, 1) := by decide +kernel
theorem dX9_owed_84 : decode cX9_owed 84 = .ok (.aload_n 0, 1) := by decide +kernel
theorem dX9_owed_85 : decode cX9_owed 85 = .ok (.getfield 37, 3) := by decide +kernel
theorem dX9_owed_88 : decode cX9_owed 88 = .ok (.getfield 286, 3) := by decide +kernel
theorem dX9_owed_91 : decode cX9_owed 91 = .ok (.iload 4, 2) := by decide +kernel
theorem dX9_owed_93 : decode cX9_owed 93 = .ok (.iaload, 1) := by decide +kernel
theorem dX9_owed_94 : decode cX9_owed 94 = .ok (.invokevirtual 148, 3) := by decide +kernel
theorem dX9_owed_97 : decode cX9_owed 97 = .ok (.invokevirtual 169, 3) := by decide +kernel
theorem dX9_owed_100 : decode cX9_owed 100 = .ok (.ifCond .eq 37, 3) := by decide +kernel
theorem dX9_owed_103 : decode cX9_owed 103 = .ok (.lload_n 2, 1) := by decide +kernel
theorem dX9_owed_104 : decode cX9_owed 104 = .ok (.iload 6, 2) := by decide +kernel
theorem dX9_owed_106 : decode cX9_owed 106 = .ok (.ifCond .eq 17, 3) := by decide +kernel
theorem dX9_owed_109 : decode cX9_owed 109 = .ok (.aload_n 0, 1) := by decide +kernel
theorem dX9_owed_110 : decode cX9_owed 110 = .ok (.getfield 37, 3) := by decide +kernel
theorem dX9_owed_113 : decode cX9_owed 113 = .ok (.getfield 289, 3) := by decide +kernel
theorem dX9_owed_116 : decode cX9_owed 116 = .ok (.iload 4, 2) := by decide +kernel
theorem dX9_owed_118 : decode cX9_owed 118 = .ok (.iaload, 1) := by decide +kernel
theorem dX9_owed_119 : decode cX9_owed 119 = .ok (.i2l, 1) := by decide +kernel
theorem dX9_owed_120 : decode cX9_owed 120 = .ok (.goto 15, 3) := by decide +kernel
theorem dX9_owed_123 : decode cX9_owed 123 = .ok (.aload_n 0, 1) := by decide +kernel
theorem dX9_owed_124 : decode cX9_owed 124 = .ok (.getfield 37, 3) := by decide +kernel
theorem dX9_owed_127 : decode cX9_owed 127 = .ok (.getfield 289, 3) := by decide +kernel
theorem dX9_owed_130 : decode cX9_owed 130 = .ok (.iload 4, 2) := by decide +kernel
theorem dX9_owed_132 : decode cX9_owed 132 = .ok (.iaload, 1) := by decide +kernel
theorem dX9_owed_133 : decode cX9_owed 133 = .ok (.ineg, 1) := by decide +kernel
theorem dX9_owed_134 : decode cX9_owed 134 = .ok (.i2l, 1) := by decide +kernel
theorem dX9_owed_135 : decode cX9_owed 135 = .ok (.ladd, 1) := by decide +kernel
theorem dX9_owed_136 : decode cX9_owed 136 = .ok (.lstore_n 2, 1) := by decide +kernel
theorem dX9_owed_137 : decode cX9_owed 137 = .ok (.iinc 4 1, 3) := by decide +kernel
theorem dX9_owed_140 : decode cX9_owed 140 = .ok (.goto (-122), 3) := by decide +kernel
theorem dX9_owed_143 : decode cX9_owed 143 = .ok (.lload_n 2, 1) := by decide +kernel
theorem dX9_owed_144 : decode cX9_owed 144 = .ok (.lreturn, 1) := by decide +kernel
theorem dX9_chain_0 : decode cX9_chain 0 = .ok (.aload_n 0, 1) := by decide +kernel
theorem dX9_chain_1 : decode cX9_chain 1 = .ok (.iload_n 1, 1) := by decide +kernel
theorem dX9_chain_2 : decode cX9_chain 2 = .ok (.invokevirtual 148, 3) := by decide +kernel
theorem dX9_chain_5 : decode cX9_chain 5 = .ok (.astore_n 2, 1) := by decide +kernel
theorem dX9_chain_6 : decode cX9_chain 6 = .ok (.aload_n 2, 1) := by decide +kernel
theorem dX9_chain_7 : decode cX9_chain 7 = .ok (.ifnonnull 8, 3) := by decide +kernel
theorem dX9_chain_10 : decode cX9_chain 10 = .ok (.bipush (-2), 2) := by decide +kernel
theorem dX9_chain_12 : decode cX9_chain 12 = .ok (.goto 7, 3) := by decide +kernel
theorem dX9_chain_15 : decode cX9_chain 15 = .ok (.aload_n 2, 1) := by decide +kernel
theorem dX9_chain_16 : decode cX9_chain 16 = .ok (.getfield 292, 3) := by decide +kernel
theorem dX9_chain_19 : decode cX9_chain 19 = .ok (.ireturn, 1) := by decide +kernel
theorem dX9_falls_0 : decode cX9_falls 0 = .ok (.aload_n 0, 1) := by decide +kernel
theorem dX9_falls_1 : decode cX9_falls 1 = .ok (.iload_n 1, 1) := by decide +kernel
theorem dX9_falls_2 : decode cX9_falls 2 = .ok (.invokevirtual 148, 3) := by decide +kernel
theorem dX9_falls_5 : decode cX9_falls 5 = .ok (.astore_n 3, 1) := by decide +kernel
theorem dX9_falls_6 : decode cX9_falls 6 = .ok (.aload_n 3, 1) := by decide +kernel
theorem dX9_falls_7 : decode cX9_falls 7 = .ok (.ifnull 12, 3) := by decide +kernel
theorem dX9_falls_10 : decode cX9_falls 10 = .ok (.iload_n 2, 1) := by decide +kernel
theorem dX9_falls_11 : decode cX9_falls 11 = .ok (.bipush 100, 2) := by decide +kernel
theorem dX9_falls_13 : decode cX9_falls 13 = .ok (.invokestatic 106, 3) := by decide +kernel
theorem dX9_falls_16 : decode cX9_falls 16 = .ok (.ifCond .ne 7, 3) := by decide +kernel
theorem dX9_falls_19 : decode cX9_falls 19 = .ok (.ldc2_w 227, 3) := by decide +kernel
theorem dX9_falls_22 : decode cX9_falls 22 = .ok (.lreturn, 1) := by decide +kernel
theorem dX9_falls_23 : decode cX9_falls 23 = .ok (.aload_n 0, 1) := by decide +kernel
theorem dX9_falls_24 : decode cX9_falls 24 = .ok (.getfield 37, 3) := by decide +kernel
theorem dX9_falls_27 : decode cX9_falls 27 = .ok (.aload_n 0, 1) := by decide +kernel
theorem dX9_falls_28 : decode cX9_falls 28 = .ok (.getfield 37, 3) := by decide +kernel
theorem dX9_falls_31 : decode cX9_falls 31 = .ok (.iload_n 1, 1) := by decide +kernel
theorem dX9_falls_32 : decode cX9_falls 32 = .ok (.invokevirtual 295, 3) := by decide +kernel
theorem dX9_falls_35 : decode cX9_falls 35 = .ok (.invokevirtual 298, 3) := by decide +kernel
theorem dX9_falls_38 : decode cX9_falls 38 = .ok (.istore 4, 2) := by decide +kernel
theorem dX9_falls_40 : decode cX9_falls 40 = .ok (.lconst 0, 1) := by decide +kernel
theorem dX9_falls_41 : decode cX9_falls 41 = .ok (.lstore 5, 2) := by decide +kernel
theorem dX9_falls_43 : decode cX9_falls 43 = .ok (.iconst 0, 1) := by decide +kernel
theorem dX9_falls_44 : decode cX9_falls 44 = .ok (.istore 7, 2) := by decide +kernel
theorem dX9_falls_46 : decode cX9_falls 46 = .ok (.iload 7, 2) := by decide +kernel
theorem dX9_falls_48 : decode cX9_falls 48 = .ok (.aload_n 0, 1) := by decide +kernel
theorem dX9_falls_49 : decode cX9_falls 49 = .ok (.getfield 142, 3) := by decide +kernel
theorem dX9_falls_52 : decode cX9_falls 52 = .ok (.if_icmp .ge 74, 3) := by decide +kernel
theorem dX9_falls_55 : decode cX9_falls 55 = .ok (.aload_n 0, 1) := by decide +kernel
theorem dX9_falls_56 : decode cX9_falls 56 = .ok (.getfield 17, 3) := by decide +kernel
theorem dX9_falls_59 : decode cX9_falls 59 = .ok (.iload 7, 2) := by decide +kernel
theorem dX9_falls_61 : decode cX9_falls 61 = .ok (.aaload, 1) := by decide +kernel
theorem dX9_falls_62 : decode cX9_falls 62 = .ok (.astore 8, 2) := by decide +kernel
theorem dX9_falls_64 : decode cX9_falls 64 = .ok (.aload 8, 2) := by decide +kernel
theorem dX9_falls_66 : decode cX9_falls 66 = .ok (.ifnull 54, 3) := by decide +kernel
theorem dX9_falls_69 : decode cX9_falls 69 = .ok (.aload 8, 2) := by decide +kernel
theorem dX9_falls_71 : decode cX9_falls 71 = .ok (.getfield 155, 3) := by decide +kernel
theorem dX9_falls_74 : decode cX9_falls 74 = .ok (.getfield 159, 3) := by decide +kernel
theorem dX9_falls_77 : decode cX9_falls 77 = .ok (.aload_n 3, 1) := by decide +kernel
theorem dX9_falls_78 : decode cX9_falls 78 = .ok (.getfield 155, 3) := by decide +kernel
theorem dX9_falls_81 : decode cX9_falls 81 = .ok (.getfield 159, 3) := by decide +kernel
theorem dX9_falls_84 : decode cX9_falls 84 = .ok (.if_icmp .eq 14, 3) := by decide +kernel
theorem dX9_falls_87 : decode cX9_falls 87 = .ok (.iload 4, 2) := by decide +kernel
theorem dX9_falls_89 : decode cX9_falls 89 = .ok (.iload 7, 2) := by decide +kernel
theorem dX9_falls_91 : decode cX9_falls 91 = .ok (.ishr, 1) := by decide +kernel
theorem dX9_falls_92 : decode cX9_falls 92 = .ok (.iconst 1, 1) := by decide +kernel
theorem dX9_falls_93 : decode cX9_falls 93 = .ok (.iand, 1) := by decide +kernel
theorem dX9_falls_94 : decode cX9_falls 94 = .ok (.iconst 1, 1) := by decide +kernel
theorem dX9_falls_95 : decode cX9_falls 95 = .ok (.if_icmp .ne 25, 3) := by decide +kernel
theorem dX9_falls_98 : decode cX9_falls 98 = .ok (.aload_n 0, 1) := by decide +kernel
theorem dX9_falls_99 : decode cX9_falls 99 = .ok (.aload 8, 2) := by decide +kernel
theorem dX9_falls_101 : decode cX9_falls 101 = .ok (.invokevirtual 169, 3) := by decide +kernel
theorem dX9_falls_104 : decode cX9_falls 104 = .ok (.ifCond .ne 16, 3) := by decide +kernel
theorem dX9_falls_107 : decode cX9_falls 107 = .ok (.lload 5, 2) := by decide +kernel
theorem dX9_falls_109 : decode cX9_falls 109 = .ok (.aload_n 0, 1) := by decide +kernel
theorem dX9_falls_110 : decode cX9_falls 110 = .ok (.aload 8, 2) := by decide +kernel
theorem dX9_falls_112 : decode cX9_falls 112 = .ok (.iconst 1, 1) := by decide +kernel
theorem dX9_falls_113 : decode cX9_falls 113 = .ok (.invokevirtual 183, 3) := by decide +kernel
theorem dX9_falls_116 : decode cX9_falls 116 = .ok (.i2l, 1) := by decide +kernel
theorem dX9_falls_117 : decode cX9_falls 117 = .ok (.ladd, 1) := by decide +kernel
theorem dX9_falls_118 : decode cX9_falls 118 = .ok (.lstore 5, 2) := by decide +kernel
theorem dX9_falls_120 : decode cX9_falls 120 = .ok (.iinc 7 1, 3) := by decide +kernel
theorem dX9_falls_123 : decode cX9_falls 123 = .ok (.goto (-77), 3) := by decide +kernel
theorem dX9_falls_126 : decode cX9_falls 126 = .ok (.lload 5, 2) := by decide +kernel
theorem dX9_falls_128 : decode cX9_falls 128 = .ok (.iload_n 2, 1) := by decide +kernel
theorem dX9_falls_129 : decode cX9_falls 129 = .ok (.i2l, 1) := by decide +kernel
theorem dX9_falls_130 : decode cX9_falls 130 = .ok (.lmul, 1) := by decide +kernel
theorem dX9_falls_131 : decode cX9_falls 131 = .ok (.ldc2_w 301, 3) := by decide +kernel
theorem dX9_falls_134 : decode cX9_falls 134 = .ok (.ldiv, 1) := by decide +kernel
theorem dX9_falls_135 : decode cX9_falls 135 = .ok (.lreturn, 1) := by decide +kernel
theorem dX9_saw_0 : decode cX9_saw 0 = .ok (.iload_n 1, 1) := by decide +kernel
theorem dX9_saw_1 : decode cX9_saw 1 = .ok (.aload_n 0, 1) := by decide +kernel
theorem dX9_saw_2 : decode cX9_saw 2 = .ok (.getfield 37, 3) := by decide +kernel
theorem dX9_saw_5 : decode cX9_saw 5 = .ok (.getfield 199, 3) := by decide +kernel
theorem dX9_saw_8 : decode cX9_saw 8 = .ok (.invokestatic 136, 3) := by decide +kernel
theorem dX9_saw_11 : decode cX9_saw 11 = .ok (.ifCond .ne 6, 3) := by decide +kernel
theorem dX9_saw_14 : decode cX9_saw 14 = .ok (.bipush (-2), 2) := by decide +kernel
theorem dX9_saw_16 : decode cX9_saw 16 = .ok (.ireturn, 1) := by decide +kernel
theorem dX9_saw_17 : decode cX9_saw 17 = .ok (.aload_n 0, 1) := by decide +kernel
theorem dX9_saw_18 : decode cX9_saw 18 = .ok (.aload_n 0, 1) := by decide +kernel
theorem dX9_saw_19 : decode cX9_saw 19 = .ok (.getfield 37, 3) := by decide +kernel
theorem dX9_saw_22 : decode cX9_saw 22 = .ok (.getfield 286, 3) := by decide +kernel
theorem dX9_saw_25 : decode cX9_saw 25 = .ok (.iload_n 1, 1) := by decide +kernel
theorem dX9_saw_26 : decode cX9_saw 26 = .ok (.iaload, 1) := by decide +kernel
theorem dX9_saw_27 : decode cX9_saw 27 = .ok (.invokevirtual 148, 3) := by decide +kernel
theorem dX9_saw_30 : decode cX9_saw 30 = .ok (.astore_n 2, 1) := by decide +kernel
theorem dX9_saw_31 : decode cX9_saw 31 = .ok (.iconst 0, 1) := by decide +kernel
theorem dX9_saw_32 : decode cX9_saw 32 = .ok (.istore_n 3, 1) := by decide +kernel
theorem dX9_saw_33 : decode cX9_saw 33 = .ok (.iload_n 3, 1) := by decide +kernel
theorem dX9_saw_34 : decode cX9_saw 34 = .ok (.iconst 3, 1) := by decide +kernel
theorem dX9_saw_35 : decode cX9_saw 35 = .ok (.if_icmp .ge 48, 3) := by decide +kernel
theorem dX9_saw_38 : decode cX9_saw 38 = .ok (.aload_n 2, 1) := by decide +kernel
theorem dX9_saw_39 : decode cX9_saw 39 = .ok (.ifnull 38, 3) := by decide +kernel
theorem dX9_saw_42 : decode cX9_saw 42 = .ok (.aload_n 0, 1) := by decide +kernel
theorem dX9_saw_43 : decode cX9_saw 43 = .ok (.getfield 30, 3) := by decide +kernel
theorem dX9_saw_46 : decode cX9_saw 46 = .ok (.aload_n 2, 1) := by decide +kernel
theorem dX9_saw_47 : decode cX9_saw 47 = .ok (.iload_n 3, 1) := by decide +kernel
theorem dX9_saw_48 : decode cX9_saw 48 = .ok (.invokevirtual 303, 3) := by decide +kernel
theorem dX9_saw_51 : decode cX9_saw 51 = .ok (.ifCond .eq 26, 3) := by decide +kernel
theorem dX9_saw_54 : decode cX9_saw 54 = .ok (.aload_n 0, 1) := by decide +kernel
theorem dX9_saw_55 : decode cX9_saw 55 = .ok (.getfield 30, 3) := by decide +kernel
theorem dX9_saw_58 : decode cX9_saw 58 = .ok (.getfield 139, 3) := by decide +kernel
theorem dX9_saw_61 : decode cX9_saw 61 = .ok (.iload_n 3, 1) := by decide +kernel
theorem dX9_saw_62 : decode cX9_saw 62 = .ok (.iaload, 1) := by decide +kernel
theorem dX9_saw_63 : decode cX9_saw 63 = .ok (.aload_n 0, 1) := by decide +kernel
theorem dX9_saw_64 : decode cX9_saw 64 = .ok (.getfield 37, 3) := by decide +kernel
theorem dX9_saw_67 : decode cX9_saw 67 = .ok (.getfield 307, 3) := by decide +kernel
theorem dX9_saw_70 : decode cX9_saw 70 = .ok (.iload_n 1, 1) := by decide +kernel
theorem dX9_saw_71 : decode cX9_saw 71 = .ok (.iaload, 1) := by decide +kernel
theorem dX9_saw_72 : decode cX9_saw 72 = .ok (.if_icmp .gt 5, 3) := by decide +kernel
theorem dX9_saw_75 : decode cX9_saw 75 = .ok (.iconst 1, 1) := by decide +kernel
theorem dX9_saw_76 : decode cX9_saw 76 = .ok (.ireturn, 1) := by decide +kernel
theorem dX9_saw_77 : decode cX9_saw 77 = .ok (.iinc 3 1, 3) := by decide +kernel
theorem dX9_saw_80 : decode cX9_saw 80 = .ok (.goto (-47), 3) := by decide +kernel
theorem dX9_saw_83 : decode cX9_saw 83 = .ok (.iconst 0, 1) := by decide +kernel
theorem dX9_saw_84 : decode cX9_saw 84 = .ok (.ireturn, 1) := by decide +kernel
theorem dX9_image_0 : decode cX9_image 0 = .ok (.iconst 0, 1) := by decide +kernel
theorem dX9_image_1 : decode cX9_image 1 = .ok (.istore_n 1, 1) := by decide +kernel
theorem dX9_image_2 : decode cX9_image 2 = .ok (.iload_n 1, 1) := by decide +kernel
theorem dX9_image_3 : decode cX9_image 3 = .ok (.aload_n 0, 1) := by decide +kernel
theorem dX9_image_4 : decode cX9_image 4 = .ok (.getfield 115, 3) := by decide +kernel
theorem dX9_image_7 : decode cX9_image 7 = .ok (.if_icmp .ge 37, 3) := by decide +kernel
theorem dX9_image_10 : decode cX9_image 10 = .ok (.aload_n 0, 1) := by decide +kernel
theorem dX9_image_11 : decode cX9_image 11 = .ok (.getfield 11, 3) := by decide +kernel
theorem dX9_image_14 : decode cX9_image 14 = .ok (.iload_n 1, 1) := by decide +kernel
theorem dX9_image_15 : decode cX9_image 15 = .ok (.aaload, 1) := by decide +kernel
theorem dX9_image_16 : decode cX9_image 16 = .ok (.astore_n 2, 1) := by decide +kernel
theorem dX9_image_17 : decode cX9_image 17 = .ok (.aload_n 0, 1) := by decide +kernel
theorem dX9_image_18 : decode cX9_image 18 = .ok (.getfield 63, 3) := by decide +kernel
theorem dX9_image_21 : decode cX9_image 21 = .ok (.getfield 310, 3) := by decide +kernel
theorem dX9_image_24 : decode cX9_image 24 = .ok (.iload_n 1, 1) := by decide +kernel
theorem dX9_image_25 : decode cX9_image 25 = .ok (.aload_n 2, 1) := by decide +kernel
theorem dX9_image_26 : decode cX9_image 26 = .ok (.ifnonnull 7, 3) := by decide +kernel
theorem dX9_image_29 : decode cX9_image 29 = .ok (.iconst 0, 1) := by decide +kernel
theorem dX9_image_30 : decode cX9_image 30 = .ok (.goto 7, 3) := by decide +kernel
theorem dX9_image_33 : decode cX9_image 33 = .ok (.aload_n 2, 1) := by decide +kernel
theorem dX9_image_34 : decode cX9_image 34 = .ok (.getfield 125, 3) := by decide +kernel
theorem dX9_image_37 : decode cX9_image 37 = .ok (.iastore, 1) := by decide +kernel
theorem dX9_image_38 : decode cX9_image 38 = .ok (.iinc 1 1, 3) := by decide +kernel
theorem dX9_image_41 : decode cX9_image 41 = .ok (.goto (-39), 3) := by decide +kernel
theorem dX9_image_44 : decode cX9_image 44 = .ok (.aload_n 0, 1) := by decide +kernel
theorem dX9_image_45 : decode cX9_image 45 = .ok (.getfield 63, 3) := by decide +kernel
theorem dX9_image_48 : decode cX9_image 48 = .ok (.aload_n 0, 1) := by decide +kernel
theorem dX9_image_49 : decode cX9_image 49 = .ok (.getfield 115, 3) := by decide +kernel
theorem dX9_image_52 : decode cX9_image 52 = .ok (.putfield 312, 3) := by decide +kernel
theorem dX9_image_55 : decode cX9_image 55 = .ok (.aload_n 0, 1) := by decide +kernel
theorem dX9_image_56 : decode cX9_image 56 = .ok (.getfield 63, 3) := by decide +kernel
theorem dX9_image_59 : decode cX9_image 59 = .ok (.getfield 314, 3) := by decide +kernel
theorem dX9_image_62 : decode cX9_image 62 = .ok (.aload_n 0, 1) := by decide +kernel
theorem dX9_image_63 : decode cX9_image 63 = .ok (.getfield 30, 3) := by decide +kernel
theorem dX9_image_66 : decode cX9_image 66 = .ok (.invokevirtual 315, 3) := by decide +kernel
theorem dX9_image_69 : decode cX9_image 69 = .ok (.aload_n 0, 1) := by decide +kernel
theorem dX9_image_70 : decode cX9_image 70 = .ok (.getfield 63, 3) := by decide +kernel
theorem dX9_image_73 : decode cX9_image 73 = .ok (.aload_n 0, 1) := by decide +kernel
theorem dX9_image_74 : decode cX9_image 74 = .ok (.getfield 213, 3) := by decide +kernel
theorem dX9_image_77 : decode cX9_image 77 = .ok (.putfield 319, 3) := by decide +kernel
theorem dX9_image_80 : decode cX9_image 80 = .ok (.aload_n 0, 1) := by decide +kernel
theorem dX9_image_81 : decode cX9_image 81 = .ok (.getfield 63, 3) := by decide +kernel
theorem dX9_image_84 : decode cX9_image 84 = .ok (.aload_n 0, 1) := by decide +kernel
theorem dX9_image_85 : decode cX9_image 85 = .ok (.getfield 37, 3) := by decide +kernel
theorem dX9_image_88 : decode cX9_image 88 = .ok (.getfield 199, 3) := by decide +kernel
theorem dX9_image_91 : decode cX9_image 91 = .ok (.putfield 322, 3) := by decide +kernel
theorem dX9_image_94 : decode cX9_image 94 = .ok (.aload_n 0, 1) := by decide +kernel
theorem dX9_image_95 : decode cX9_image 95 = .ok (.getfield 63, 3) := by decide +kernel
theorem dX9_image_98 : decode cX9_image 98 = .ok (.getfield 322, 3) := by decide +kernel
theorem dX9_image_101 : decode cX9_image 101 = .ok (.ireturn, 1) := by decide +kernel
theorem dX9_back_0 : decode cX9_back 0 = .ok (.aload_n 0, 1) := by decide +kernel
theorem dX9_back_1 : decode cX9_back 1 = .ok (.getfield 63, 3) := by decide +kernel
theorem dX9_back_4 : decode cX9_back 4 = .ok (.getfield 322, 3) := by decide +kernel
theorem dX9_back_7 : decode cX9_back 7 = .ok (.iconst (-1), 1) := by decide +kernel
theorem dX9_back_8 : decode cX9_back 8 = .ok (.if_icmp .ne 6, 3) := by decide +kernel
theorem dX9_back_11 : decode cX9_back 11 = .ok (.bipush (-3), 2) := by decide +kernel
theorem dX9_back_13 : decode cX9_back 13 = .ok (.ireturn, 1) := by decide +kernel
theorem dX9_back_14 : decode cX9_back 14 = .ok (.iconst 0, 1) := by decide +kernel
theorem dX9_back_15 : decode cX9_back 15 = .ok (.istore_n 1, 1) := by decide +kernel
theorem dX9_back_16 : decode cX9_back 16 = .ok (.iload_n 1, 1) := by decide +kernel
theorem dX9_back_17 : decode cX9_back 17 = .ok (.aload_n 0, 1) := by decide +kernel
theorem dX9_back_18 : decode cX9_back 18 = .ok (.getfield 63, 3) := by decide +kernel
theorem dX9_back_21 : decode cX9_back 21 = .ok (.getfield 312, 3) := by decide +kernel
theorem dX9_back_24 : decode cX9_back 24 = .ok (.if_icmp .ge 33, 3) := by decide +kernel
theorem dX9_back_27 : decode cX9_back 27 = .ok (.aload_n 0, 1) := by decide +kernel
theorem dX9_back_28 : decode cX9_back 28 = .ok (.getfield 11, 3) := by decide +kernel
theorem dX9_back_31 : decode cX9_back 31 = .ok (.iload_n 1, 1) := by decide +kernel
theorem dX9_back_32 : decode cX9_back 32 = .ok (.aaload, 1) := by decide +kernel
theorem dX9_back_33 : decode cX9_back 33 = .ok (.astore_n 2, 1) := by decide +kernel
theorem dX9_back_34 : decode cX9_back 34 = .ok (.aload_n 2, 1) := by decide +kernel
theorem dX9_back_35 : decode cX9_back 35 = .ok (.ifnull 16, 3) := by decide +kernel
theorem dX9_back_38 : decode cX9_back 38 = .ok (.aload_n 2, 1) := by decide +kernel
theorem dX9_back_39 : decode cX9_back 39 = .ok (.aload_n 0, 1) := by decide +kernel
theorem dX9_back_40 : decode cX9_back 40 = .ok (.getfield 63, 3) := by decide +kernel
theorem dX9_back_43 : decode cX9_back 43 = .ok (.getfield 310, 3) := by decide +kernel
theorem dX9_back_46 : decode cX9_back 46 = .ok (.iload_n 1, 1) := by decide +kernel
theorem dX9_back_47 : decode cX9_back 47 = .ok (.iaload, 1) := by decide +kernel
theorem dX9_back_48 : decode cX9_back 48 = .ok (.putfield 125, 3) := by decide +kernel
theorem dX9_back_51 : decode cX9_back 51 = .ok (.iinc 1 1, 3) := by decide +kernel
theorem dX9_back_54 : decode cX9_back 54 = .ok (.goto (-38), 3) := by decide +kernel
theorem dX9_back_57 : decode cX9_back 57 = .ok (.aload_n 0, 1) := by decide +kernel
theorem dX9_back_58 : decode cX9_back 58 = .ok (.getfield 30, 3) := by decide +kernel
theorem dX9_back_61 : decode cX9_back 61 = .ok (.aload_n 0, 1) := by decide +kernel
theorem dX9_back_62 : decode cX9_back 62 = .ok (.getfield 63, 3) := by decide +kernel
theorem dX9_back_65 : decode cX9_back 65 = .ok (.getfield 314, 3) := by decide +kernel
theorem dX9_back_68 : decode cX9_back 68 = .ok (.invokevirtual 315, 3) := by decide +kernel
theorem dX9_back_71 : decode cX9_back 71 = .ok (.aload_n 0, 1) := by decide +kernel
theorem dX9_back_72 : decode cX9_back 72 = .ok (.aload_n 0, 1) := by decide +kernel
theorem dX9_back_73 : decode cX9_back 73 = .ok (.getfield 63, 3) := by decide +kernel
theorem dX9_back_76 : decode cX9_back 76 = .ok (.getfield 319, 3) := by decide +kernel
theorem dX9_back_79 : decode cX9_back 79 = .ok (.putfield 213, 3) := by decide +kernel
theorem dX9_back_82 : decode cX9_back 82 = .ok (.aload_n 0, 1) := by decide +kernel
theorem dX9_back_83 : decode cX9_back 83 = .ok (.getfield 37, 3) := by decide +kernel
theorem dX9_back_86 : decode cX9_back 86 = .ok (.aload_n 0, 1) := by decide +kernel
theorem dX9_back_87 : decode cX9_back 87 = .ok (.getfield 63, 3) := by decide +kernel
theorem dX9_back_90 : decode cX9_back 90 = .ok (.getfield 322, 3) := by decide +kernel
theorem dX9_back_93 : decode cX9_back 93 = .ok (.putfield 199, 3) := by decide +kernel
theorem dX9_back_96 : decode cX9_back 96 = .ok (.aload_n 0, 1) := by decide +kernel
theorem dX9_back_97 : decode cX9_back 97 = .ok (.invokevirtual 325, 3) := by decide +kernel
theorem dX9_back_100 : decode cX9_back 100 = .ok (.aload_n 0, 1) := by decide +kernel
theorem dX9_back_101 : decode cX9_back 101 = .ok (.getfield 37, 3) := by decide +kernel
theorem dX9_back_104 : decode cX9_back 104 = .ok (.getfield 199, 3) := by decide +kernel
theorem dX9_back_107 : decode cX9_back 107 = .ok (.ireturn, 1) := by decide +kernel
theorem dX9_count_0 : decode cX9_count 0 = .ok (.iload_n 1, 1) := by decide +kernel
theorem dX9_count_1 : decode cX9_count 1 = .ok (.tableswitch 93 0 7 #[47, 52, 57, 65, 70, 78, 83, 88], 47) := by decide +kernel
theorem dX9_count_48 : decode cX9_count 48 = .ok (.aload_n 0, 1) := by decide +kernel
theorem dX9_count_49 : decode cX9_count 49 = .ok (.getfield 115, 3) := by decide +kernel
theorem dX9_count_52 : decode cX9_count 52 = .ok (.ireturn, 1) := by decide +kernel
theorem dX9_count_53 : decode cX9_count 53 = .ok (.aload_n 0, 1) := by decide +kernel
theorem dX9_count_54 : decode cX9_count 54 = .ok (.getfield 142, 3) := by decide +kernel
theorem dX9_count_57 : decode cX9_count 57 = .ok (.ireturn, 1) := by decide +kernel
theorem dX9_count_58 : decode cX9_count 58 = .ok (.aload_n 0, 1) := by decide +kernel
theorem dX9_count_59 : decode cX9_count 59 = .ok (.getfield 37, 3) := by decide +kernel
theorem dX9_count_62 : decode cX9_count 62 = .ok (.getfield 199, 3) := by decide +kernel
theorem dX9_count_65 : decode cX9_count 65 = .ok (.ireturn, 1) := by decide +kernel
theorem dX9_count_66 : decode cX9_count 66 = .ok (.aload_n 0, 1) := by decide +kernel
theorem dX9_count_67 : decode cX9_count 67 = .ok (.getfield 102, 3) := by decide +kernel
theorem dX9_count_70 : decode cX9_count 70 = .ok (.ireturn, 1) := by decide +kernel
theorem dX9_count_71 : decode cX9_count 71 = .ok (.aload_n 0, 1) := by decide +kernel
theorem dX9_count_72 : decode cX9_count 72 = .ok (.getfield 44, 3) := by decide +kernel
theorem dX9_count_75 : decode cX9_count 75 = .ok (.getfield 209, 3) := by decide +kernel
theorem dX9_count_78 : decode cX9_count 78 = .ok (.ireturn, 1) := by decide +kernel
theorem dX9_count_79 : decode cX9_count 79 = .ok (.aload_n 0, 1) := by decide +kernel
theorem dX9_count_80 : decode cX9_count 80 = .ok (.getfield 213, 3) := by decide +kernel
theorem dX9_count_83 : decode cX9_count 83 = .ok (.ireturn, 1) := by decide +kernel
theorem dX9_count_84 : decode cX9_count 84 = .ok (.aload_n 0, 1) := by decide +kernel
theorem dX9_count_85 : decode cX9_count 85 = .ok (.invokevirtual 328, 3) := by decide +kernel
theorem dX9_count_88 : decode cX9_count 88 = .ok (.ireturn, 1) := by decide +kernel
theorem dX9_count_89 : decode cX9_count 89 = .ok (.aload_n 0, 1) := by decide +kernel
theorem dX9_count_90 : decode cX9_count 90 = .ok (.invokevirtual 331, 3) := by decide +kernel
theorem dX9_count_93 : decode cX9_count 93 = .ok (.ireturn, 1) := by decide +kernel
theorem dX9_count_94 : decode cX9_count 94 = .ok (.bipush (-2), 2) := by decide +kernel
theorem dX9_count_96 : decode cX9_count 96 = .ok (.ireturn, 1) := by decide +kernel
theorem dX9_sheet_0 : decode cX9_sheet 0 = .ok (.aload_n 0, 1) := by decide +kernel
theorem dX9_sheet_1 : decode cX9_sheet 1 = .ok (.iload_n 1, 1) := by decide +kernel
theorem dX9_sheet_2 : decode cX9_sheet 2 = .ok (.invokevirtual 334, 3) := by decide +kernel
theorem dX9_sheet_5 : decode cX9_sheet 5 = .ok (.astore 4, 2) := by decide +kernel
theorem dX9_sheet_7 : decode cX9_sheet 7 = .ok (.aload 4, 2) := by decide +kernel
theorem dX9_sheet_9 : decode cX9_sheet 9 = .ok (.ifnull 24, 3) := by decide +kernel
theorem dX9_sheet_12 : decode cX9_sheet 12 = .ok (.iload_n 2, 1) := by decide +kernel
theorem dX9_sheet_13 : decode cX9_sheet 13 = .ok (.iconst (-1), 1) := by decide +kernel
theorem dX9_sheet_14 : decode cX9_sheet 14 = .ok (.if_icmp .lt 19, 3) := by decide +kernel
theorem dX9_sheet_17 : decode cX9_sheet 17 = .ok (.iload_n 2, 1) := by decide +kernel
theorem dX9_sheet_18 : decode cX9_sheet 18 = .ok (.iconst 2, 1) := by decide +kernel
theorem dX9_sheet_19 : decode cX9_sheet 19 = .ok (.if_icmp .gt 14, 3) := by decide +kernel
theorem dX9_sheet_22 : decode cX9_sheet 22 = .ok (.iload_n 2, 1) := by decide +kernel
theorem dX9_sheet_23 : decode cX9_sheet 23 = .ok (.iconst (-1), 1) := by decide +kernel
theorem dX9_sheet_24 : decode cX9_sheet 24 = .ok (.if_icmp .eq 12, 3) := by decide +kernel
theorem dX9_sheet_27 : decode cX9_sheet 27 = .ok (.iload_n 3, 1) := by decide +kernel
theorem dX9_sheet_28 : decode cX9_sheet 28 = .ok (.bipush 40, 2) := by decide +kernel
theorem dX9_sheet_30 : decode cX9_sheet 30 = .ok (.if_icmp .le 6, 3) := by decide +kernel
theorem dX9_sheet_33 : decode cX9_sheet 33 = .ok (.bipush (-2), 2) := by decide +kernel
theorem dX9_sheet_35 : decode cX9_sheet 35 = .ok (.ireturn, 1) := by decide +kernel
theorem dX9_sheet_36 : decode cX9_sheet 36 = .ok (.iload_n 2, 1) := by decide +kernel
theorem dX9_sheet_37 : decode cX9_sheet 37 = .ok (.iconst (-1), 1) := by decide +kernel
theorem dX9_sheet_38 : decode cX9_sheet 38 = .ok (.if_icmp .eq 10, 3) := by decide +kernel
theorem dX9_sheet_41 : decode cX9_sheet 41 = .ok (.iload_n 3, 1) := by decide +kernel
theorem dX9_sheet_42 : decode cX9_sheet 42 = .ok (.ifCond .ge 6, 3) := by decide +kernel
theorem dX9_sheet_45 : decode cX9_sheet 45 = .ok (.bipush (-14), 2) := by decide +kernel
theorem dX9_sheet_47 : decode cX9_sheet 47 = .ok (.ireturn, 1) := by decide +kernel
theorem dX9_sheet_48 : decode cX9_sheet 48 = .ok (.aload 4, 2) := by decide +kernel
theorem dX9_sheet_50 : decode cX9_sheet 50 = .ok (.iload_n 2, 1) := by decide +kernel
theorem dX9_sheet_51 : decode cX9_sheet 51 = .ok (.iload_n 2, 1) := by decide +kernel
theorem dX9_sheet_52 : decode cX9_sheet 52 = .ok (.iconst (-1), 1) := by decide +kernel
theorem dX9_sheet_53 : decode cX9_sheet 53 = .ok (.if_icmp .ne 7, 3) := by decide +kernel
theorem dX9_sheet_56 : decode cX9_sheet 56 = .ok (.iconst 0, 1) := by decide +kernel
theorem dX9_sheet_57 : decode cX9_sheet 57 = .ok (.goto 4, 3) := by decide +kernel
theorem dX9_sheet_60 : decode cX9_sheet 60 = .ok (.iload_n 3, 1) := by decide +kernel
theorem dX9_sheet_61 : decode cX9_sheet 61 = .ok (.invokevirtual 338, 3) := by decide +kernel
theorem dX9_sheet_64 : decode cX9_sheet 64 = .ok (.iconst 1, 1) := by decide +kernel
theorem dX9_sheet_65 : decode cX9_sheet 65 = .ok (.ireturn, 1) := by decide +kernel
theorem dX9_cell_0 : decode cX9_cell 0 = .ok (.aload_n 0, 1) := by decide +kernel
theorem dX9_cell_1 : decode cX9_cell 1 = .ok (.iload_n 1, 1) := by decide +kernel
theorem dX9_cell_2 : decode cX9_cell 2 = .ok (.invokevirtual 334, 3) := by decide +kernel
theorem dX9_cell_5 : decode cX9_cell 5 = .ok (.astore 4, 2) := by decide +kernel
theorem dX9_cell_7 : decode cX9_cell 7 = .ok (.aload 4, 2) := by decide +kernel
theorem dX9_cell_9 : decode cX9_cell 9 = .ok (.ifnonnull 6, 3) := by decide +kernel
theorem dX9_cell_12 : decode cX9_cell 12 = .ok (.bipush (-2), 2) := by decide +kernel
theorem dX9_cell_14 : decode cX9_cell 14 = .ok (.ireturn, 1) := by decide +kernel
theorem dX9_cell_15 : decode cX9_cell 15 = .ok (.aload 4, 2) := by decide +kernel
theorem dX9_cell_17 : decode cX9_cell 17 = .ok (.getfield 341, 3) := by decide +kernel
theorem dX9_cell_20 : decode cX9_cell 20 = .ok (.iconst (-1), 1) := by decide +kernel
theorem dX9_cell_21 : decode cX9_cell 21 = .ok (.if_icmp .ne 6, 3) := by decide +kernel
theorem dX9_cell_24 : decode cX9_cell 24 = .ok (.bipush (-11), 2) := by decide +kernel
theorem dX9_cell_26 : decode cX9_cell 26 = .ok (.ireturn, 1) := by decide +kernel
theorem dX9_cell_27 : decode cX9_cell 27 = .ok (.iload_n 2, 1) := by decide +kernel
theorem dX9_cell_28 : decode cX9_cell 28 = .ok (.aload 4, 2) := by decide +kernel
theorem dX9_cell_30 : decode cX9_cell 30 = .ok (.getfield 344, 3) := by decide +kernel
theorem dX9_cell_33 : decode cX9_cell 33 = .ok (.invokestatic 136, 3) := by decide +kernel
theorem dX9_cell_36 : decode cX9_cell 36 = .ok (.ifCond .ne 6, 3) := by decide +kernel
theorem dX9_cell_39 : decode cX9_cell 39 = .ok (.bipush (-12), 2) := by decide +kernel
theorem dX9_cell_41 : decode cX9_cell 41 = .ok (.ireturn, 1) := by decide +kernel
theorem dX9_cell_42 : decode cX9_cell 42 = .ok (.aload 4, 2) := by decide +kernel
theorem dX9_cell_44 : decode cX9_cell 44 = .ok (.getfield 345, 3) := by decide +kernel
theorem dX9_cell_47 : decode cX9_cell 47 = .ok (.iload_n 2, 1) := by decide +kernel
theorem dX9_cell_48 : decode cX9_cell 48 = .ok (.aload 4, 2) := by decide +kernel
theorem dX9_cell_50 : decode cX9_cell 50 = .ok (.iload_n 3, 1) := by decide +kernel
theorem dX9_cell_51 : decode cX9_cell 51 = .ok (.invokevirtual 348, 3) := by decide +kernel
theorem dX9_cell_54 : decode cX9_cell 54 = .ok (.iastore, 1) := by decide +kernel
theorem dX9_cell_55 : decode cX9_cell 55 = .ok (.iconst 1, 1) := by decide +kernel
theorem dX9_cell_56 : decode cX9_cell 56 = .ok (.ireturn, 1) := by decide +kernel
theorem dX9_copy_0 : decode cX9_copy 0 = .ok (.aload_n 0, 1) := by decide +kernel
theorem dX9_copy_1 : decode cX9_copy 1 = .ok (.iload_n 1, 1) := by decide +kernel
theorem dX9_copy_2 : decode cX9_copy 2 = .ok (.invokevirtual 334, 3) := by decide +kernel
theorem dX9_copy_5 : decode cX9_copy 5 = .ok (.astore 6, 2) := by decide +kernel
theorem dX9_copy_7 : decode cX9_copy 7 = .ok (.aload_n 0, 1) := by decide +kernel
theorem dX9_copy_8 : decode cX9_copy 8 = .ok (.iload_n 3, 1) := by decide +kernel
theorem dX9_copy_9 : decode cX9_copy 9 = .ok (.invokevirtual 334, 3) := by decide +kernel
theorem dX9_copy_12 : decode cX9_copy 12 = .ok (.astore 7, 2) := by decide +kernel
theorem dX9_copy_14 : decode cX9_copy 14 = .ok (.aload 6, 2) := by decide +kernel
theorem dX9_copy_16 : decode cX9_copy 16 = .ok (.ifnull 8, 3) := by decide +kernel
theorem dX9_copy_19 : decode cX9_copy 19 = .ok (.aload 7, 2) := by decide +kernel
theorem dX9_copy_21 : decode cX9_copy 21 = .ok (.ifnonnull 6, 3) := by decide +kernel
theorem dX9_copy_24 : decode cX9_copy 24 = .ok (.bipush (-2), 2) := by decide +kernel
theorem dX9_copy_26 : decode cX9_copy 26 = .ok (.ireturn, 1) := by decide +kernel
theorem dX9_copy_27 : decode cX9_copy 27 = .ok (.aload 6, 2) := by decide +kernel
theorem dX9_copy_29 : decode cX9_copy 29 = .ok (.getfield 341, 3) := by decide +kernel
theorem dX9_copy_32 : decode cX9_copy 32 = .ok (.iconst (-1), 1) := by decide +kernel
theorem dX9_copy_33 : decode cX9_copy 33 = .ok (.if_icmp .eq 12, 3) := by decide +kernel
theorem dX9_copy_36 : decode cX9_copy 36 = .ok (.aload 7, 2) := by decide +kernel
theorem dX9_copy_38 : decode cX9_copy 38 = .ok (.getfield 341, 3) := by decide +kernel
theorem dX9_copy_41 : decode cX9_copy 41 = .ok (.iconst (-1), 1) := by decide +kernel
theorem dX9_copy_42 : decode cX9_copy 42 = .ok (.if_icmp .ne 6, 3) := by decide +kernel
theorem dX9_copy_45 : decode cX9_copy 45 = .ok (.bipush (-11), 2) := by decide +kernel
theorem dX9_copy_47 : decode cX9_copy 47 = .ok (.ireturn, 1) := by decide +kernel
theorem dX9_copy_48 : decode cX9_copy 48 = .ok (.aload 6, 2) := by decide +kernel
theorem dX9_copy_50 : decode cX9_copy 50 = .ok (.getfield 341, 3) := by decide +kernel
theorem dX9_copy_53 : decode cX9_copy 53 = .ok (.aload 7, 2) := by decide +kernel
theorem dX9_copy_55 : decode cX9_copy 55 = .ok (.getfield 341, 3) := by decide +kernel
theorem dX9_copy_58 : decode cX9_copy 58 = .ok (.if_icmp .eq 6, 3) := by decide +kernel
theorem dX9_copy_61 : decode cX9_copy 61 = .ok (.bipush (-13), 2) := by decide +kernel
theorem dX9_copy_63 : decode cX9_copy 63 = .ok (.ireturn, 1) := by decide +kernel
theorem dX9_copy_64 : decode cX9_copy 64 = .ok (.aload 6, 2) := by decide +kernel
theorem dX9_copy_66 : decode cX9_copy 66 = .ok (.iload_n 2, 1) := by decide +kernel
theorem dX9_copy_67 : decode cX9_copy 67 = .ok (.iload 5, 2) := by decide +kernel
theorem dX9_copy_69 : decode cX9_copy 69 = .ok (.invokevirtual 351, 3) := by decide +kernel
theorem dX9_copy_72 : decode cX9_copy 72 = .ok (.ifCond .eq 15, 3) := by decide +kernel
theorem dX9_copy_75 : decode cX9_copy 75 = .ok (.aload 7, 2) := by decide +kernel
theorem dX9_copy_77 : decode cX9_copy 77 = .ok (.iload 4, 2) := by decide +kernel
theorem dX9_copy_79 : decode cX9_copy 79 = .ok (.iload 5, 2) := by decide +kernel
theorem dX9_copy_81 : decode cX9_copy 81 = .ok (.invokevirtual 351, 3) := by decide +kernel
theorem dX9_copy_84 : decode cX9_copy 84 = .ok (.ifCond .ne 6, 3) := by decide +kernel
theorem dX9_copy_87 : decode cX9_copy 87 = .ok (.bipush (-12), 2) := by decide +kernel
theorem dX9_copy_89 : decode cX9_copy 89 = .ok (.ireturn, 1) := by decide +kernel
theorem dX9_copy_90 : decode cX9_copy 90 = .ok (.aload 6, 2) := by decide +kernel
theorem dX9_copy_92 : decode cX9_copy 92 = .ok (.getfield 345, 3) := by decide +kernel
theorem dX9_copy_95 : decode cX9_copy 95 = .ok (.iload_n 2, 1) := by decide +kernel
theorem dX9_copy_96 : decode cX9_copy 96 = .ok (.aload 7, 2) := by decide +kernel
theorem dX9_copy_98 : decode cX9_copy 98 = .ok (.getfield 345, 3) := by decide +kernel
theorem dX9_copy_101 : decode cX9_copy 101 = .ok (.iload 4, 2) := by decide +kernel
theorem dX9_copy_103 : decode cX9_copy 103 = .ok (.iload 5, 2) := by decide +kernel
theorem dX9_copy_105 : decode cX9_copy 105 = .ok (.invokestatic 354, 3) := by decide +kernel
theorem dX9_copy_108 : decode cX9_copy 108 = .ok (.iload 5, 2) := by decide +kernel
theorem dX9_copy_110 : decode cX9_copy 110 = .ok (.ireturn, 1) := by decide +kernel
theorem dX9_sales_0 : decode cX9_sales 0 = .ok (.aload_n 0, 1) := by decide +kernel
theorem dX9_sales_1 : decode cX9_sales 1 = .ok (.iload_n 1, 1) := by decide +kernel
theorem dX9_sales_2 : decode cX9_sales 2 = .ok (.invokevirtual 334, 3) := by decide +kernel
theorem dX9_sales_5 : decode cX9_sales 5 = .ok (.astore 5, 2) := by decide +kernel
theorem dX9_sales_7 : decode cX9_sales 7 = .ok (.aload 5, 2) := by decide +kernel
theorem dX9_sales_9 : decode cX9_sales 9 = .ok (.ifnull 21, 3) := by decide +kernel
theorem dX9_sales_12 : decode cX9_sales 12 = .ok (.iload_n 2, 1) := by decide +kernel
theorem dX9_sales_13 : decode cX9_sales 13 = .ok (.iconst 2, 1) := by decide +kernel
theorem dX9_sales_14 : decode cX9_sales 14 = .ok (.invokestatic 106, 3) := by decide +kernel
theorem dX9_sales_17 : decode cX9_sales 17 = .ok (.ifCond .eq 13, 3) := by decide +kernel
theorem dX9_sales_20 : decode cX9_sales 20 = .ok (.iload 4, 2) := by decide +kernel
theorem dX9_sales_22 : decode cX9_sales 22 = .ok (.bipush 10, 2) := by decide +kernel
theorem dX9_sales_24 : decode cX9_sales 24 = .ok (.invokestatic 106, 3) := by decide +kernel
theorem dX9_sales_27 : decode cX9_sales 27 = .ok (.ifCond .ne 6, 3) := by decide +kernel
theorem dX9_sales_30 : decode cX9_sales 30 = .ok (.bipush (-2), 2) := by decide +kernel
theorem dX9_sales_32 : decode cX9_sales 32 = .ok (.ireturn, 1) := by decide +kernel
theorem dX9_sales_33 : decode cX9_sales 33 = .ok (.aload 5, 2) := by decide +kernel
theorem dX9_sales_35 : decode cX9_sales 35 = .ok (.getfield 341, 3) := by decide +kernel
theorem dX9_sales_38 : decode cX9_sales 38 = .ok (.iconst (-1), 1) := by decide +kernel
theorem dX9_sales_39 : decode cX9_sales 39 = .ok (.if_icmp .ne 6, 3) := by decide +kernel
theorem dX9_sales_42 : decode cX9_sales 42 = .ok (.bipush (-11), 2) := by decide +kernel
theorem dX9_sales_44 : decode cX9_sales 44 = .ok (.ireturn, 1) := by decide +kernel
theorem dX9_sales_45 : decode cX9_sales 45 = .ok (.aload 5, 2) := by decide +kernel
theorem dX9_sales_47 : decode cX9_sales 47 = .ok (.getfield 341, 3) := by decide +kernel
theorem dX9_sales_50 : decode cX9_sales 50 = .ok (.iload_n 2, 1) := by decide +kernel
theorem dX9_sales_51 : decode cX9_sales 51 = .ok (.if_icmp .eq 6, 3) := by decide +kernel
theorem dX9_sales_54 : decode cX9_sales 54 = .ok (.bipush (-13), 2) := by decide +kernel
theorem dX9_sales_56 : decode cX9_sales 56 = .ok (.ireturn, 1) := by decide +kernel
theorem dX9_sales_57 : decode cX9_sales 57 = .ok (.iconst 0, 1) := by decide +kernel
theorem dX9_sales_58 : decode cX9_sales 58 = .ok (.istore 6, 2) := by decide +kernel
theorem dX9_sales_60 : decode cX9_sales 60 = .ok (.iconst 0, 1) := by decide +kernel
theorem dX9_sales_61 : decode cX9_sales 61 = .ok (.istore 7, 2) := by decide +kernel
theorem dX9_sales_63 : decode cX9_sales 63 = .ok (.iload 7, 2) := by decide +kernel
theorem dX9_sales_65 : decode cX9_sales 65 = .ok (.iload 4, 2) := by decide +kernel
theorem dX9_sales_67 : decode cX9_sales 67 = .ok (.if_icmp .ge 79, 3) := by decide +kernel
theorem dX9_sales_70 : decode cX9_sales 70 = .ok (.iload_n 3, 1) := by decide +kernel
theorem dX9_sales_71 : decode cX9_sales 71 = .ok (.iconst 4, 1) := by decide +kernel
theorem dX9_sales_72 : decode cX9_sales 72 = .ok (.iload 7, 2) := by decide +kernel
theorem dX9_sales_74 : decode cX9_sales 74 = .ok (.imul, 1) := by decide +kernel
theorem dX9_sales_75 : decode cX9_sales 75 = .ok (.iadd, 1) := by decide +kernel
theorem dX9_sales_76 : decode cX9_sales 76 = .ok (.istore 8, 2) := by decide +kernel
theorem dX9_sales_78 : decode cX9_sales 78 = .ok (.aload 5, 2) := by decide +kernel
theorem dX9_sales_80 : decode cX9_sales 80 = .ok (.iload 8, 2) := by decide +kernel
theorem dX9_sales_82 : decode cX9_sales 82 = .ok (.iconst 4, 1) := by decide +kernel
theorem dX9_sales_83 : decode cX9_sales 83 = .ok (.invokevirtual 351, 3) := by decide +kernel
theorem dX9_sales_86 : decode cX9_sales 86 = .ok (.ifCond .ne 6, 3) := by decide +kernel
theorem dX9_sales_89 : decode cX9_sales 89 = .ok (.bipush (-12), 2) := by decide +kernel
theorem dX9_sales_91 : decode cX9_sales 91 = .ok (.ireturn, 1) := by decide +kernel
theorem dX9_sales_92 : decode cX9_sales 92 = .ok (.aload_n 0, 1) := by decide +kernel
theorem dX9_sales_93 : decode cX9_sales 93 = .ok (.aload 5, 2) := by decide +kernel
theorem dX9_sales_95 : decode cX9_sales 95 = .ok (.getfield 345, 3) := by decide +kernel
theorem dX9_sales_98 : decode cX9_sales 98 = .ok (.iload 8, 2) := by decide +kernel
theorem dX9_sales_100 : decode cX9_sales 100 = .ok (.iaload, 1) := by decide +kernel
theorem dX9_sales_101 : decode cX9_sales 101 = .ok (.aload 5, 2) := by decide +kernel
theorem dX9_sales_103 : decode cX9_sales 103 = .ok (.getfield 345, 3) := by decide +kernel
theorem dX9_sales_106 : decode cX9_sales 106 = .ok (.iload 8, 2) := by decide +kernel
theorem dX9_sales_108 : decode cX9_sales 108 = .ok (.iconst 1, 1) := by decide +kernel
theorem dX9_sales_109 : decode cX9_sales 109 = .ok (.iadd, 1) := by decide +kernel
theorem dX9_sales_110 : decode cX9_sales 110 = .ok (.iaload, 1) := by decide +kernel
theorem dX9_sales_111 : decode cX9_sales 111 = .ok (.aload 5, 2) := by decide +kernel
theorem dX9_sales_113 : decode cX9_sales 113 = .ok (.getfield 345, 3) := by decide +kernel
theorem dX9_sales_116 : decode cX9_sales 116 = .ok (.iload 8, 2) := by decide +kernel
theorem dX9_sales_118 : decode cX9_sales 118 = .ok (.iconst 2, 1) := by decide +kernel
theorem dX9_sales_119 : decode cX9_sales 119 = .ok (.iadd, 1) := by decide +kernel
theorem dX9_sales_120 : decode cX9_sales 120 = .ok (.iaload, 1) := by decide +kernel
theorem dX9_sales_121 : decode cX9_sales 121 = .ok (.aload 5, 2) := by decide +kernel
theorem dX9_sales_123 : decode cX9_sales 123 = .ok (.getfield 345, 3) := by decide +kernel
theorem dX9_sales_126 : decode cX9_sales 126 = .ok (.iload 8, 2) := by decide +kernel
theorem dX9_sales_128 : decode cX9_sales 128 = .ok (.iconst 3, 1) := by decide +kernel
theorem dX9_sales_129 : decode cX9_sales 129 = .ok (.iadd, 1) := by decide +kernel
theorem dX9_sales_130 : decode cX9_sales 130 = .ok (.iaload, 1) := by decide +kernel
theorem dX9_sales_131 : decode cX9_sales 131 = .ok (.invokevirtual 360, 3) := by decide +kernel
theorem dX9_sales_134 : decode cX9_sales 134 = .ok (.ifCond .lt 6, 3) := by decide +kernel
theorem dX9_sales_137 : decode cX9_sales 137 = .ok (.iinc 6 1, 3) := by decide +kernel
theorem dX9_sales_140 : decode cX9_sales 140 = .ok (.iinc 7 1, 3) := by decide +kernel
theorem dX9_sales_143 : decode cX9_sales 143 = .ok (.goto (-80), 3) := by decide +kernel
theorem dX9_sales_146 : decode cX9_sales 146 = .ok (.iload 6, 2) := by decide +kernel
theorem dX9_sales_148 : decode cX9_sales 148 = .ok (.ireturn, 1) := by decide +kernel
theorem dX9_taken_0 : decode cX9_taken 0 = .ok (.iload_n 2, 1) := by decide +kernel
theorem dX9_taken_1 : decode cX9_taken 1 = .ok (.iconst 5, 1) := by decide +kernel
theorem dX9_taken_2 : decode cX9_taken 2 = .ok (.invokestatic 106, 3) := by decide +kernel
theorem dX9_taken_5 : decode cX9_taken 5 = .ok (.ifCond .ne 6, 3) := by decide +kernel
theorem dX9_taken_8 : decode cX9_taken 8 = .ok (.bipush (-2), 2) := by decide +kernel
theorem dX9_taken_10 : decode cX9_taken 10 = .ok (.ireturn, 1) := by decide +kernel
theorem dX9_taken_11 : decode cX9_taken 11 = .ok (.aload_n 0, 1) := by decide +kernel
theorem dX9_taken_12 : decode cX9_taken 12 = .ok (.iload_n 1, 1) := by decide +kernel
theorem dX9_taken_13 : decode cX9_taken 13 = .ok (.invokevirtual 148, 3) := by decide +kernel
theorem dX9_taken_16 : decode cX9_taken 16 = .ok (.astore_n 3, 1) := by decide +kernel
theorem dX9_taken_17 : decode cX9_taken 17 = .ok (.aload_n 3, 1) := by decide +kernel
theorem dX9_taken_18 : decode cX9_taken 18 = .ok (.ifnonnull 6, 3) := by decide +kernel
theorem dX9_taken_21 : decode cX9_taken 21 = .ok (.bipush (-11), 2) := by decide +kernel
theorem dX9_taken_23 : decode cX9_taken 23 = .ok (.ireturn, 1) := by decide +kernel
theorem dX9_taken_24 : decode cX9_taken 24 = .ok (.aload_n 3, 1) := by decide +kernel
theorem dX9_taken_25 : decode cX9_taken 25 = .ok (.getfield 152, 3) := by decide +kernel
theorem dX9_taken_28 : decode cX9_taken 28 = .ok (.iload_n 2, 1) := by decide +kernel
theorem dX9_taken_29 : decode cX9_taken 29 = .ok (.invokestatic 229, 3) := by decide +kernel
theorem dX9_taken_32 : decode cX9_taken 32 = .ok (.ifCond .eq 13, 3) := by decide +kernel
theorem dX9_taken_35 : decode cX9_taken 35 = .ok (.aload_n 3, 1) := by decide +kernel
theorem dX9_taken_36 : decode cX9_taken 36 = .ok (.getfield 363, 3) := by decide +kernel
theorem dX9_taken_39 : decode cX9_taken 39 = .ok (.getfield 159, 3) := by decide +kernel
theorem dX9_taken_42 : decode cX9_taken 42 = .ok (.goto 5, 3) := by decide +kernel
theorem dX9_taken_45 : decode cX9_taken 45 = .ok (.bipush (-13), 2) := by decide +kernel
theorem dX9_taken_47 : decode cX9_taken 47 = .ok (.ireturn, 1) := by decide +kernel
theorem dX9_isUpTo_0 : decode cX9_isUpTo 0 = .ok (.iload_n 0, 1) := by decide +kernel
theorem dX9_isUpTo_1 : decode cX9_isUpTo 1 = .ok (.ifCond .lt 12, 3) := by decide +kernel
theorem dX9_isUpTo_4 : decode cX9_isUpTo 4 = .ok (.iload_n 0, 1) := by decide +kernel
theorem dX9_isUpTo_5 : decode cX9_isUpTo 5 = .ok (.iload_n 1, 1) := by decide +kernel
theorem dX9_isUpTo_6 : decode cX9_isUpTo 6 = .ok (.if_icmp .gt 7, 3) := by decide +kernel
theorem dX9_isUpTo_9 : decode cX9_isUpTo 9 = .ok (.iconst 1, 1) := by decide +kernel
theorem dX9_isUpTo_10 : decode cX9_isUpTo 10 = .ok (.goto 4, 3) := by decide +kernel
theorem dX9_isUpTo_13 : decode cX9_isUpTo 13 = .ok (.iconst 0, 1) := by decide +kernel
theorem dX9_isUpTo_14 : decode cX9_isUpTo 14 = .ok (.ireturn, 1) := by decide +kernel
theorem dX9_isBelow_0 : decode cX9_isBelow 0 = .ok (.iload_n 0, 1) := by decide +kernel
theorem dX9_isBelow_1 : decode cX9_isBelow 1 = .ok (.ifCond .lt 12, 3) := by decide +kernel
theorem dX9_isBelow_4 : decode cX9_isBelow 4 = .ok (.iload_n 0, 1) := by decide +kernel
theorem dX9_isBelow_5 : decode cX9_isBelow 5 = .ok (.iload_n 1, 1) := by decide +kernel
theorem dX9_isBelow_6 : decode cX9_isBelow 6 = .ok (.if_icmp .ge 7, 3) := by decide +kernel
theorem dX9_isBelow_9 : decode cX9_isBelow 9 = .ok (.iconst 1, 1) := by decide +kernel
theorem dX9_isBelow_10 : decode cX9_isBelow 10 = .ok (.goto 4, 3) := by decide +kernel
theorem dX9_isBelow_13 : decode cX9_isBelow 13 = .ok (.iconst 0, 1) := by decide +kernel
theorem dX9_isBelow_14 : decode cX9_isBelow 14 = .ok (.ireturn, 1) := by decide +kernel
theorem dX9_areParts_0 : decode cX9_areParts 0 = .ok (.iload_n 0, 1) := by decide +kernel
theorem dX9_areParts_1 : decode cX9_areParts 1 = .ok (.sipush 333, 3) := by decide +kernel
theorem dX9_areParts_4 : decode cX9_areParts 4 = .ok (.invokestatic 106, 3) := by decide +kernel
theorem dX9_areParts_7 : decode cX9_areParts 7 = .ok (.ifCond .eq 26, 3) := by decide +kernel
theorem dX9_areParts_10 : decode cX9_areParts 10 = .ok (.iload_n 0, 1) := by decide +kernel
theorem dX9_areParts_11 : decode cX9_areParts 11 = .ok (.bipush 10, 2) := by decide +kernel
theorem dX9_areParts_13 : decode cX9_areParts 13 = .ok (.idiv, 1) := by decide +kernel
theorem dX9_areParts_14 : decode cX9_areParts 14 = .ok (.bipush 10, 2) := by decide +kernel
theorem dX9_areParts_16 : decode cX9_areParts 16 = .ok (.irem, 1) := by decide +kernel
theorem dX9_areParts_17 : decode cX9_areParts 17 = .ok (.iconst 4, 1) := by decide +kernel
theorem dX9_areParts_18 : decode cX9_areParts 18 = .ok (.if_icmp .ge 15, 3) := by decide +kernel
theorem dX9_areParts_21 : decode cX9_areParts 21 = .ok (.iload_n 0, 1) := by decide +kernel
theorem dX9_areParts_22 : decode cX9_areParts 22 = .ok (.bipush 10, 2) := by decide +kernel
theorem dX9_areParts_24 : decode cX9_areParts 24 = .ok (.irem, 1) := by decide +kernel
theorem dX9_areParts_25 : decode cX9_areParts 25 = .ok (.iconst 4, 1) := by decide +kernel
theorem dX9_areParts_26 : decode cX9_areParts 26 = .ok (.if_icmp .ge 7, 3) := by decide +kernel
theorem dX9_areParts_29 : decode cX9_areParts 29 = .ok (.iconst 1, 1) := by decide +kernel
theorem dX9_areParts_30 : decode cX9_areParts 30 = .ok (.goto 4, 3) := by decide +kernel
theorem dX9_areParts_33 : decode cX9_areParts 33 = .ok (.iconst 0, 1) := by decide +kernel
theorem dX9_areParts_34 : decode cX9_areParts 34 = .ok (.ireturn, 1) := by decide +kernel
theorem dX9_partOf_0 : decode cX9_partOf 0 = .ok (.iload_n 1, 1) := by decide +kernel
theorem dX9_partOf_1 : decode cX9_partOf 1 = .ok (.ifCond .ne 10, 3) := by decide +kernel
theorem dX9_partOf_4 : decode cX9_partOf 4 = .ok (.iload_n 0, 1) := by decide +kernel
theorem dX9_partOf_5 : decode cX9_partOf 5 = .ok (.bipush 100, 2) := by decide +kernel
theorem dX9_partOf_7 : decode cX9_partOf 7 = .ok (.idiv, 1) := by decide +kernel
theorem dX9_partOf_8 : decode cX9_partOf 8 = .ok (.goto 22, 3) := by decide +kernel
theorem dX9_partOf_11 : decode cX9_partOf 11 = .ok (.iload_n 1, 1) := by decide +kernel
theorem dX9_partOf_12 : decode cX9_partOf 12 = .ok (.iconst 1, 1) := by decide +kernel
theorem dX9_partOf_13 : decode cX9_partOf 13 = .ok (.if_icmp .ne 13, 3) := by decide +kernel
theorem dX9_partOf_16 : decode cX9_partOf 16 = .ok (.iload_n 0, 1) := by decide +kernel
theorem dX9_partOf_17 : decode cX9_partOf 17 = .ok (.bipush 10, 2) := by decide +kernel
theorem dX9_partOf_19 : decode cX9_partOf 19 = .ok (.idiv, 1) := by decide +kernel
theorem dX9_partOf_20 : decode cX9_partOf 20 = .ok (.bipush 10, 2) := by decide +kernel
theorem dX9_partOf_22 : decode cX9_partOf 22 = .ok (.irem, 1) := by decide +kernel
theorem dX9_partOf_23 : decode cX9_partOf 23 = .ok (.goto 7, 3) := by decide +kernel
theorem dX9_partOf_26 : decode cX9_partOf 26 = .ok (.iload_n 0, 1) := by decide +kernel
theorem dX9_partOf_27 : decode cX9_partOf 27 = .ok (.bipush 10, 2) := by decide +kernel
theorem dX9_partOf_29 : decode cX9_partOf 29 = .ok (.irem, 1) := by decide +kernel
theorem dX9_partOf_30 : decode cX9_partOf 30 = .ok (.ireturn, 1) := by decide +kernel
theorem dX9_weightOf_0 : decode cX9_weightOf 0 = .ok (.iload_n 0, 1) := by decide +kernel
theorem dX9_weightOf_1 : decode cX9_weightOf 1 = .ok (.iconst 5, 1) := by decide +kernel
theorem dX9_weightOf_2 : decode cX9_weightOf 2 = .ok (.invokestatic 106, 3) := by decide +kernel
theorem dX9_weightOf_5 : decode cX9_weightOf 5 = .ok (.ifCond .eq 11, 3) := by decide +kernel
theorem dX9_weightOf_8 : decode cX9_weightOf 8 = .ok (.getstatic 366, 3) := by decide +kernel
theorem dX9_weightOf_11 : decode cX9_weightOf 11 = .ok (.iload_n 0, 1) := by decide +kernel
theorem dX9_weightOf_12 : decode cX9_weightOf 12 = .ok (.iaload, 1) := by decide +kernel
theorem dX9_weightOf_13 : decode cX9_weightOf 13 = .ok (.goto 4, 3) := by decide +kernel
theorem dX9_weightOf_16 : decode cX9_weightOf 16 = .ok (.iconst 0, 1) := by decide +kernel
theorem dX9_weightOf_17 : decode cX9_weightOf 17 = .ok (.ireturn, 1) := by decide +kernel
theorem dX9_isOfKind_0 : decode cX9_isOfKind 0 = .ok (.iload_n 0, 1) := by decide +kernel
theorem dX9_isOfKind_1 : decode cX9_isOfKind 1 = .ok (.istore_n 2, 1) := by decide +kernel
theorem dX9_isOfKind_2 : decode cX9_isOfKind 2 = .ok (.iconst 0, 1) := by decide +kernel
theorem dX9_isOfKind_3 : decode cX9_isOfKind 3 = .ok (.istore_n 3, 1) := by decide +kernel
theorem dX9_isOfKind_4 : decode cX9_isOfKind 4 = .ok (.iload_n 3, 1) := by decide +kernel
theorem dX9_isOfKind_5 : decode cX9_isOfKind 5 = .ok (.iconst 5, 1) := by decide +kernel
theorem dX9_isOfKind_6 : decode cX9_isOfKind 6 = .ok (.if_icmp .gt 28, 3) := by decide +kernel
theorem dX9_isOfKind_9 : decode cX9_isOfKind 9 = .ok (.iload_n 2, 1) := by decide +kernel
theorem dX9_isOfKind_10 : decode cX9_isOfKind 10 = .ok (.iconst 5, 1) := by decide +kernel
theorem dX9_isOfKind_11 : decode cX9_isOfKind 11 = .ok (.invokestatic 106, 3) := by decide +kernel
theorem dX9_isOfKind_14 : decode cX9_isOfKind 14 = .ok (.ifCond .eq 20, 3) := by decide +kernel
theorem dX9_isOfKind_17 : decode cX9_isOfKind 17 = .ok (.iload_n 2, 1) := by decide +kernel
theorem dX9_isOfKind_18 : decode cX9_isOfKind 18 = .ok (.iload_n 1, 1) := by decide +kernel
theorem dX9_isOfKind_19 : decode cX9_isOfKind 19 = .ok (.if_icmp .eq 15, 3) := by decide +kernel
theorem dX9_isOfKind_22 : decode cX9_isOfKind 22 = .ok (.getstatic 369, 3) := by decide +kernel
theorem dX9_isOfKind_25 : decode cX9_isOfKind 25 = .ok (.iload_n 2, 1) := by decide +kernel
theorem dX9_isOfKind_26 : decode cX9_isOfKind 26 = .ok (.iaload, 1) := by decide +kernel
theorem dX9_isOfKind_27 : decode cX9_isOfKind 27 = .ok (.istore_n 2, 1) := by decide +kernel
theorem dX9_isOfKind_28 : decode cX9_isOfKind 28 = .ok (.iinc 3 1, 3) := by decide +kernel
theorem dX9_isOfKind_31 : decode cX9_isOfKind 31 = .ok (.goto (-27), 3) := by decide +kernel
theorem dX9_isOfKind_34 : decode cX9_isOfKind 34 = .ok (.iload_n 2, 1) := by decide +kernel
theorem dX9_isOfKind_35 : decode cX9_isOfKind 35 = .ok (.iload_n 1, 1) := by decide +kernel
theorem dX9_isOfKind_36 : decode cX9_isOfKind 36 = .ok (.if_icmp .ne 7, 3) := by decide +kernel
theorem dX9_isOfKind_39 : decode cX9_isOfKind 39 = .ok (.iconst 1, 1) := by decide +kernel
theorem dX9_isOfKind_40 : decode cX9_isOfKind 40 = .ok (.goto 4, 3) := by decide +kernel
theorem dX9_isOfKind_43 : decode cX9_isOfKind 43 = .ok (.iconst 0, 1) := by decide +kernel
theorem dX9_isOfKind_44 : decode cX9_isOfKind 44 = .ok (.ireturn, 1) := by decide +kernel
theorem dX9_commonDivisor_0 : decode cX9_commonDivisor 0 = .ok (.iload_n 0, 1) := by decide +kernel
theorem dX9_commonDivisor_1 : decode cX9_commonDivisor 1 = .ok (.istore_n 2, 1) := by decide +kernel
theorem dX9_commonDivisor_2 : decode cX9_commonDivisor 2 = .ok (.iload_n 1, 1) := by decide +kernel
theorem dX9_commonDivisor_3 : decode cX9_commonDivisor 3 = .ok (.istore_n 3, 1) := by decide +kernel
theorem dX9_commonDivisor_4 : decode cX9_commonDivisor 4 = .ok (.iconst 0, 1) := by decide +kernel
theorem dX9_commonDivisor_5 : decode cX9_commonDivisor 5 = .ok (.istore 4, 2) := by decide +kernel
theorem dX9_commonDivisor_7 : decode cX9_commonDivisor 7 = .ok (.iload 4, 2) := by decide +kernel
theorem dX9_commonDivisor_9 : decode cX9_commonDivisor 9 = .ok (.bipush 100, 2) := by decide +kernel
theorem dX9_commonDivisor_11 : decode cX9_commonDivisor 11 = .ok (.if_icmp .ge 23, 3) := by decide +kernel
theorem dX9_commonDivisor_14 : decode cX9_commonDivisor 14 = .ok (.iload_n 3, 1) := by decide +kernel
theorem dX9_commonDivisor_15 : decode cX9_commonDivisor 15 = .ok (.ifCond .eq 19, 3) := by decide +kernel
theorem dX9_commonDivisor_18 : decode cX9_commonDivisor 18 = .ok (.iload_n 2, 1) := by decide +kernel
theorem dX9_commonDivisor_19 : decode cX9_commonDivisor 19 = .ok (.iload_n 3, 1) := by decide +kernel
theorem dX9_commonDivisor_20 : decode cX9_commonDivisor 20 = .ok (.irem, 1) := by decide +kernel
theorem dX9_commonDivisor_21 : decode cX9_commonDivisor 21 = .ok (.istore 5, 2) := by decide +kernel
theorem dX9_commonDivisor_23 : decode cX9_commonDivisor 23 = .ok (.iload_n 3, 1) := by decide +kernel
theorem dX9_commonDivisor_24 : decode cX9_commonDivisor 24 = .ok (.istore_n 2, 1) := by decide +kernel
theorem dX9_commonDivisor_25 : decode cX9_commonDivisor 25 = .ok (.iload 5, 2) := by decide +kernel
theorem dX9_commonDivisor_27 : decode cX9_commonDivisor 27 = .ok (.istore_n 3, 1) := by decide +kernel
theorem dX9_commonDivisor_28 : decode cX9_commonDivisor 28 = .ok (.iinc 4 1, 3) := by decide +kernel
theorem dX9_commonDivisor_31 : decode cX9_commonDivisor 31 = .ok (.goto (-24), 3) := by decide +kernel
theorem dX9_commonDivisor_34 : decode cX9_commonDivisor 34 = .ok (.iload_n 2, 1) := by decide +kernel
theorem dX9_commonDivisor_35 : decode cX9_commonDivisor 35 = .ok (.ireturn, 1) := by decide +kernel
theorem dX9_wineAt_0 : decode cX9_wineAt 0 = .ok (.iload_n 1, 1) := by decide +kernel
theorem dX9_wineAt_1 : decode cX9_wineAt 1 = .ok (.aload_n 0, 1) := by decide +kernel
theorem dX9_wineAt_2 : decode cX9_wineAt 2 = .ok (.getfield 115, 3) := by decide +kernel
theorem dX9_wineAt_5 : decode cX9_wineAt 5 = .ok (.invokestatic 136, 3) := by decide +kernel
theorem dX9_wineAt_8 : decode cX9_wineAt 8 = .ok (.ifCond .eq 18, 3) := by decide +kernel
theorem dX9_wineAt_11 : decode cX9_wineAt 11 = .ok (.iload_n 1, 1) := by decide +kernel
theorem dX9_wineAt_12 : decode cX9_wineAt 12 = .ok (.bipush 8, 2) := by decide +kernel
theorem dX9_wineAt_14 : decode cX9_wineAt 14 = .ok (.if_icmp .ge 12, 3) := by decide +kernel
theorem dX9_wineAt_17 : decode cX9_wineAt 17 = .ok (.aload_n 0, 1) := by decide +kernel
theorem dX9_wineAt_18 : decode cX9_wineAt 18 = .ok (.getfield 11, 3) := by decide +kernel
theorem dX9_wineAt_21 : decode cX9_wineAt 21 = .ok (.iload_n 1, 1) := by decide +kernel
theorem dX9_wineAt_22 : decode cX9_wineAt 22 = .ok (.aaload, 1) := by decide +kernel
theorem dX9_wineAt_23 : decode cX9_wineAt 23 = .ok (.goto 4, 3) := by decide +kernel
theorem dX9_wineAt_26 : decode cX9_wineAt 26 = .ok (.aconst_null, 1) := by decide +kernel
theorem dX9_wineAt_27 : decode cX9_wineAt 27 = .ok (.areturn, 1) := by decide +kernel
theorem dX9_bottleAt_0 : decode cX9_bottleAt 0 = .ok (.iload_n 1, 1) := by decide +kernel
theorem dX9_bottleAt_1 : decode cX9_bottleAt 1 = .ok (.aload_n 0, 1) := by decide +kernel
theorem dX9_bottleAt_2 : decode cX9_bottleAt 2 = .ok (.getfield 142, 3) := by decide +kernel
theorem dX9_bottleAt_5 : decode cX9_bottleAt 5 = .ok (.invokestatic 136, 3) := by decide +kernel
theorem dX9_bottleAt_8 : decode cX9_bottleAt 8 = .ok (.ifCond .eq 18, 3) := by decide +kernel
theorem dX9_bottleAt_11 : decode cX9_bottleAt 11 = .ok (.iload_n 1, 1) := by decide +kernel
theorem dX9_bottleAt_12 : decode cX9_bottleAt 12 = .ok (.bipush 24, 2) := by decide +kernel
theorem dX9_bottleAt_14 : decode cX9_bottleAt 14 = .ok (.if_icmp .ge 12, 3) := by decide +kernel
theorem dX9_bottleAt_17 : decode cX9_bottleAt 17 = .ok (.aload_n 0, 1) := by decide +kernel
theorem dX9_bottleAt_18 : decode cX9_bottleAt 18 = .ok (.getfield 17, 3) := by decide +kernel
theorem dX9_bottleAt_21 : decode cX9_bottleAt 21 = .ok (.iload_n 1, 1) := by decide +kernel
theorem dX9_bottleAt_22 : decode cX9_bottleAt 22 = .ok (.aaload, 1) := by decide +kernel
theorem dX9_bottleAt_23 : decode cX9_bottleAt 23 = .ok (.goto 4, 3) := by decide +kernel
theorem dX9_bottleAt_26 : decode cX9_bottleAt 26 = .ok (.aconst_null, 1) := by decide +kernel
theorem dX9_bottleAt_27 : decode cX9_bottleAt 27 = .ok (.areturn, 1) := by decide +kernel
theorem dX9_tongueAt_0 : decode cX9_tongueAt 0 = .ok (.iload_n 1, 1) := by decide +kernel
theorem dX9_tongueAt_1 : decode cX9_tongueAt 1 = .ok (.bipush 6, 2) := by decide +kernel
theorem dX9_tongueAt_3 : decode cX9_tongueAt 3 = .ok (.invokestatic 136, 3) := by decide +kernel
theorem dX9_tongueAt_6 : decode cX9_tongueAt 6 = .ok (.ifCond .eq 12, 3) := by decide +kernel
theorem dX9_tongueAt_9 : decode cX9_tongueAt 9 = .ok (.aload_n 0, 1) := by decide +kernel
theorem dX9_tongueAt_10 : decode cX9_tongueAt 10 = .ok (.getfield 50, 3) := by decide +kernel
theorem dX9_tongueAt_13 : decode cX9_tongueAt 13 = .ok (.iload_n 1, 1) := by decide +kernel
theorem dX9_tongueAt_14 : decode cX9_tongueAt 14 = .ok (.aaload, 1) := by decide +kernel
theorem dX9_tongueAt_15 : decode cX9_tongueAt 15 = .ok (.goto 4, 3) := by decide +kernel
theorem dX9_tongueAt_18 : decode cX9_tongueAt 18 = .ok (.aconst_null, 1) := by decide +kernel
theorem dX9_tongueAt_19 : decode cX9_tongueAt 19 = .ok (.areturn, 1) := by decide +kernel
theorem dX9_sheetAt_0 : decode cX9_sheetAt 0 = .ok (.iload_n 1, 1) := by decide +kernel
theorem dX9_sheetAt_1 : decode cX9_sheetAt 1 = .ok (.iconst 4, 1) := by decide +kernel
theorem dX9_sheetAt_2 : decode cX9_sheetAt 2 = .ok (.invokestatic 136, 3) := by decide +kernel
theorem dX9_sheetAt_5 : decode cX9_sheetAt 5 = .ok (.ifCond .eq 12, 3) := by decide +kernel
theorem dX9_sheetAt_8 : decode cX9_sheetAt 8 = .ok (.aload_n 0, 1) := by decide +kernel
theorem dX9_sheetAt_9 : decode cX9_sheetAt 9 = .ok (.getfield 56, 3) := by decide +kernel
theorem dX9_sheetAt_12 : decode cX9_sheetAt 12 = .ok (.iload_n 1, 1) := by decide +kernel
theorem dX9_sheetAt_13 : decode cX9_sheetAt 13 = .ok (.aaload, 1) := by decide +kernel
theorem dX9_sheetAt_14 : decode cX9_sheetAt 14 = .ok (.goto 4, 3) := by decide +kernel
theorem dX9_sheetAt_17 : decode cX9_sheetAt 17 = .ok (.aconst_null, 1) := by decide +kernel
theorem dX9_sheetAt_18 : decode cX9_sheetAt 18 = .ok (.areturn, 1) := by decide +kernel
theorem dX9_barBits_0 : decode cX9_barBits 0 = .ok (.iconst 0, 1) := by decide +kernel
theorem dX9_barBits_1 : decode cX9_barBits 1 = .ok (.istore_n 2, 1) := by decide +kernel
theorem dX9_barBits_2 : decode cX9_barBits 2 = .ok (.iconst 0, 1) := by decide +kernel
theorem dX9_barBits_3 : decode cX9_barBits 3 = .ok (.istore_n 3, 1) := by decide +kernel
theorem dX9_barBits_4 : decode cX9_barBits 4 = .ok (.iload_n 3, 1) := by decide +kernel
theorem dX9_barBits_5 : decode cX9_barBits 5 = .ok (.iconst 3, 1) := by decide +kernel
theorem dX9_barBits_6 : decode cX9_barBits 6 = .ok (.if_icmp .ge 27, 3) := by decide +kernel
theorem dX9_barBits_9 : decode cX9_barBits 9 = .ok (.aload_n 0, 1) := by decide +kernel
theorem dX9_barBits_10 : decode cX9_barBits 10 = .ok (.getfield 30, 3) := by decide +kernel
theorem dX9_barBits_13 : decode cX9_barBits 13 = .ok (.aload_n 1, 1) := by decide +kernel
theorem dX9_barBits_14 : decode cX9_barBits 14 = .ok (.iload_n 3, 1) := by decide +kernel
theorem dX9_barBits_15 : decode cX9_barBits 15 = .ok (.invokevirtual 303, 3) := by decide +kernel
theorem dX9_barBits_18 : decode cX9_barBits 18 = .ok (.ifCond .eq 9, 3) := by decide +kernel
theorem dX9_barBits_21 : decode cX9_barBits 21 = .ok (.iload_n 2, 1) := by decide +kernel
theorem dX9_barBits_22 : decode cX9_barBits 22 = .ok (.iconst 1, 1) := by decide +kernel
theorem dX9_barBits_23 : decode cX9_barBits 23 = .ok (.iload_n 3, 1) := by decide +kernel
theorem dX9_barBits_24 : decode cX9_barBits 24 = .ok (.ishl, 1) := by decide +kernel
theorem dX9_barBits_25 : decode cX9_barBits 25 = .ok (.ior, 1) := by decide +kernel
theorem dX9_barBits_26 : decode cX9_barBits 26 = .ok (.istore_n 2, 1) := by decide +kernel
theorem dX9_barBits_27 : decode cX9_barBits 27 = .ok (.iinc 3 1, 3) := by decide +kernel
theorem dX9_barBits_30 : decode cX9_barBits 30 = .ok (.goto (-26), 3) := by decide +kernel
theorem dX9_barBits_33 : decode cX9_barBits 33 = .ok (.iload_n 2, 1) := by decide +kernel
theorem dX9_barBits_34 : decode cX9_barBits 34 = .ok (.ireturn, 1) := by decide +kernel
theorem dX9_oddBits_0 : decode cX9_oddBits 0 = .ok (.iconst 0, 1) := by decide +kernel
theorem dX9_oddBits_1 : decode cX9_oddBits 1 = .ok (.istore_n 2, 1) := by decide +kernel
theorem dX9_oddBits_2 : decode cX9_oddBits 2 = .ok (.iconst 0, 1) := by decide +kernel
theorem dX9_oddBits_3 : decode cX9_oddBits 3 = .ok (.istore_n 3, 1) := by decide +kernel
theorem dX9_oddBits_4 : decode cX9_oddBits 4 = .ok (.iload_n 3, 1) := by decide +kernel
theorem dX9_oddBits_5 : decode cX9_oddBits 5 = .ok (.iconst 3, 1) := by decide +kernel
theorem dX9_oddBits_6 : decode cX9_oddBits 6 = .ok (.if_icmp .ge 49, 3) := by decide +kernel
theorem dX9_oddBits_9 : decode cX9_oddBits 9 = .ok (.aload_n 1, 1) := by decide +kernel
theorem dX9_oddBits_10 : decode cX9_oddBits 10 = .ok (.getfield 187, 3) := by decide +kernel
theorem dX9_oddBits_13 : decode cX9_oddBits 13 = .ok (.iload_n 3, 1) := by decide +kernel
theorem dX9_oddBits_14 : decode cX9_oddBits 14 = .ok (.invokestatic 190, 3) := by decide +kernel
theorem dX9_oddBits_17 : decode cX9_oddBits 17 = .ok (.aload_n 1, 1) := by decide +kernel
theorem dX9_oddBits_18 : decode cX9_oddBits 18 = .ok (.getfield 155, 3) := by decide +kernel
theorem dX9_oddBits_21 : decode cX9_oddBits 21 = .ok (.getfield 372, 3) := by decide +kernel
theorem dX9_oddBits_24 : decode cX9_oddBits 24 = .ok (.iload_n 3, 1) := by decide +kernel
theorem dX9_oddBits_25 : decode cX9_oddBits 25 = .ok (.invokestatic 190, 3) := by decide +kernel
theorem dX9_oddBits_28 : decode cX9_oddBits 28 = .ok (.if_icmp .eq 21, 3) := by decide +kernel
theorem dX9_oddBits_31 : decode cX9_oddBits 31 = .ok (.aload_n 0, 1) := by decide +kernel
theorem dX9_oddBits_32 : decode cX9_oddBits 32 = .ok (.getfield 30, 3) := by decide +kernel
theorem dX9_oddBits_35 : decode cX9_oddBits 35 = .ok (.aload_n 1, 1) := by decide +kernel
theorem dX9_oddBits_36 : decode cX9_oddBits 36 = .ok (.iload_n 3, 1) := by decide +kernel
theorem dX9_oddBits_37 : decode cX9_oddBits 37 = .ok (.invokevirtual 303, 3) := by decide +kernel
theorem dX9_oddBits_40 : decode cX9_oddBits 40 = .ok (.ifCond .ne 9, 3) := by decide +kernel
theorem dX9_oddBits_43 : decode cX9_oddBits 43 = .ok (.iload_n 2, 1) := by decide +kernel
theorem dX9_oddBits_44 : decode cX9_oddBits 44 = .ok (.iconst 1, 1) := by decide +kernel
theorem dX9_oddBits_45 : decode cX9_oddBits 45 = .ok (.iload_n 3, 1) := by decide +kernel
theorem dX9_oddBits_46 : decode cX9_oddBits 46 = .ok (.ishl, 1) := by decide +kernel
theorem dX9_oddBits_47 : decode cX9_oddBits 47 = .ok (.ior, 1) := by decide +kernel
theorem dX9_oddBits_48 : decode cX9_oddBits 48 = .ok (.istore_n 2, 1) := by decide +kernel
theorem dX9_oddBits_49 : decode cX9_oddBits 49 = .ok (.iinc 3 1, 3) := by decide +kernel
theorem dX9_oddBits_52 : decode cX9_oddBits 52 = .ok (.goto (-48), 3) := by decide +kernel
theorem dX9_oddBits_55 : decode cX9_oddBits 55 = .ok (.iload_n 2, 1) := by decide +kernel
theorem dX9_oddBits_56 : decode cX9_oddBits 56 = .ok (.ireturn, 1) := by decide +kernel
theorem dX9_isBarred_0 : decode cX9_isBarred 0 = .ok (.aload_n 1, 1) := by decide +kernel
theorem dX9_isBarred_1 : decode cX9_isBarred 1 = .ok (.ifnull 25, 3) := by decide +kernel
theorem dX9_isBarred_4 : decode cX9_isBarred 4 = .ok (.aload_n 1, 1) := by decide +kernel
theorem dX9_isBarred_5 : decode cX9_isBarred 5 = .ok (.getfield 155, 3) := by decide +kernel
theorem dX9_isBarred_8 : decode cX9_isBarred 8 = .ok (.getfield 375, 3) := by decide +kernel
theorem dX9_isBarred_11 : decode cX9_isBarred 11 = .ok (.ifCond .eq 11, 3) := by decide +kernel
theorem dX9_isBarred_14 : decode cX9_isBarred 14 = .ok (.aload_n 0, 1) := by decide +kernel
theorem dX9_isBarred_15 : decode cX9_isBarred 15 = .ok (.aload_n 1, 1) := by decide +kernel
theorem dX9_isBarred_16 : decode cX9_isBarred 16 = .ok (.invokevirtual 162, 3) := by decide +kernel
theorem dX9_isBarred_19 : decode cX9_isBarred 19 = .ok (.ifCond .eq 7, 3) := by decide +kernel
theorem dX9_isBarred_22 : decode cX9_isBarred 22 = .ok (.iconst 1, 1) := by decide +kernel
theorem dX9_isBarred_23 : decode cX9_isBarred 23 = .ok (.goto 4, 3) := by decide +kernel
theorem dX9_isBarred_26 : decode cX9_isBarred 26 = .ok (.iconst 0, 1) := by decide +kernel
theorem dX9_isBarred_27 : decode cX9_isBarred 27 = .ok (.ireturn, 1) := by decide +kernel
theorem dX9_barredBottles_0 : decode cX9_barredBottles 0 = .ok (.iconst 0, 1) := by decide +kernel
theorem dX9_barredBottles_1 : decode cX9_barredBottles 1 = .ok (.istore_n 1, 1) := by decide +kernel
theorem dX9_barredBottles_2 : decode cX9_barredBottles 2 = .ok (.iconst 0, 1) := by decide +kernel
theorem dX9_barredBottles_3 : decode cX9_barredBottles 3 = .ok (.istore_n 2, 1) := by decide +kernel
theorem dX9_barredBottles_4 : decode cX9_barredBottles 4 = .ok (.iload_n 2, 1) := by decide +kernel
theorem dX9_barredBottles_5 : decode cX9_barredBottles 5 = .ok (.aload_n 0, 1) := by decide +kernel
theorem dX9_barredBottles_6 : decode cX9_barredBottles 6 = .ok (.getfield 142, 3) := by decide +kernel
theorem dX9_barredBottles_9 : decode cX9_barredBottles 9 = .ok (.if_icmp .ge 25, 3) := by decide +kernel
theorem dX9_barredBottles_12 : decode cX9_barredBottles 12 = .ok (.aload_n 0, 1) := by decide +kernel
theorem dX9_barredBottles_13 : decode cX9_barredBottles 13 = .ok (.aload_n 0, 1) := by decide +kernel
theorem dX9_barredBottles_14 : decode cX9_barredBottles 14 = .ok (.getfield 17, 3) := by decide +kernel
theorem dX9_barredBottles_17 : decode cX9_barredBottles 17 = .ok (.iload_n 2, 1) := by decide +kernel
theorem dX9_barredBottles_18 : decode cX9_barredBottles 18 = .ok (.aaload, 1) := by decide +kernel
theorem dX9_barredBottles_19 : decode cX9_barredBottles 19 = .ok (.invokevirtual 169, 3) := by decide +kernel
theorem dX9_barredBottles_22 : decode cX9_barredBottles 22 = .ok (.ifCond .eq 6, 3) := by decide +kernel
theorem dX9_barredBottles_25 : decode cX9_barredBottles 25 = .ok (.iinc 1 1, 3) := by decide +kernel
theorem dX9_barredBottles_28 : decode cX9_barredBottles 28 = .ok (.iinc 2 1, 3) := by decide +kernel
theorem dX9_barredBottles_31 : decode cX9_barredBottles 31 = .ok (.goto (-27), 3) := by decide +kernel
theorem dX9_barredBottles_34 : decode cX9_barredBottles 34 = .ok (.iload_n 1, 1) := by decide +kernel
theorem dX9_barredBottles_35 : decode cX9_barredBottles 35 = .ok (.ireturn, 1) := by decide +kernel
theorem dX9_soldBottles_0 : decode cX9_soldBottles 0 = .ok (.iconst 0, 1) := by decide +kernel
theorem dX9_soldBottles_1 : decode cX9_soldBottles 1 = .ok (.istore_n 1, 1) := by decide +kernel
theorem dX9_soldBottles_2 : decode cX9_soldBottles 2 = .ok (.iconst 0, 1) := by decide +kernel
theorem dX9_soldBottles_3 : decode cX9_soldBottles 3 = .ok (.istore_n 2, 1) := by decide +kernel
theorem dX9_soldBottles_4 : decode cX9_soldBottles 4 = .ok (.iload_n 2, 1) := by decide +kernel
theorem dX9_soldBottles_5 : decode cX9_soldBottles 5 = .ok (.aload_n 0, 1) := by decide +kernel
theorem dX9_soldBottles_6 : decode cX9_soldBottles 6 = .ok (.getfield 142, 3) := by decide +kernel
theorem dX9_soldBottles_9 : decode cX9_soldBottles 9 = .ok (.if_icmp .ge 30, 3) := by decide +kernel
theorem dX9_soldBottles_12 : decode cX9_soldBottles 12 = .ok (.aload_n 0, 1) := by decide +kernel
theorem dX9_soldBottles_13 : decode cX9_soldBottles 13 = .ok (.getfield 17, 3) := by decide +kernel
theorem dX9_soldBottles_16 : decode cX9_soldBottles 16 = .ok (.iload_n 2, 1) := by decide +kernel
theorem dX9_soldBottles_17 : decode cX9_soldBottles 17 = .ok (.aaload, 1) := by decide +kernel
theorem dX9_soldBottles_18 : decode cX9_soldBottles 18 = .ok (.astore_n 3, 1) := by decide +kernel
theorem dX9_soldBottles_19 : decode cX9_soldBottles 19 = .ok (.aload_n 3, 1) := by decide +kernel
theorem dX9_soldBottles_20 : decode cX9_soldBottles 20 = .ok (.ifnull 13, 3) := by decide +kernel
theorem dX9_soldBottles_23 : decode cX9_soldBottles 23 = .ok (.aload_n 3, 1) := by decide +kernel
theorem dX9_soldBottles_24 : decode cX9_soldBottles 24 = .ok (.getfield 378, 3) := by decide +kernel
theorem dX9_soldBottles_27 : decode cX9_soldBottles 27 = .ok (.ifCond .le 6, 3) := by decide +kernel
theorem dX9_soldBottles_30 : decode cX9_soldBottles 30 = .ok (.iinc 1 1, 3) := by decide +kernel
theorem dX9_soldBottles_33 : decode cX9_soldBottles 33 = .ok (.iinc 2 1, 3) := by decide +kernel
theorem dX9_soldBottles_36 : decode cX9_soldBottles 36 = .ok (.goto (-32), 3) := by decide +kernel
theorem dX9_soldBottles_39 : decode cX9_soldBottles 39 = .ok (.iload_n 1, 1) := by decide +kernel
theorem dX9_soldBottles_40 : decode cX9_soldBottles 40 = .ok (.ireturn, 1) := by decide +kernel
theorem dX9_soldOf_0 : decode cX9_soldOf 0 = .ok (.iconst 0, 1) := by decide +kernel
theorem dX9_soldOf_1 : decode cX9_soldOf 1 = .ok (.istore_n 2, 1) := by decide +kernel
theorem dX9_soldOf_2 : decode cX9_soldOf 2 = .ok (.iconst 0, 1) := by decide +kernel
theorem dX9_soldOf_3 : decode cX9_soldOf 3 = .ok (.istore_n 3, 1) := by decide +kernel
theorem dX9_soldOf_4 : decode cX9_soldOf 4 = .ok (.iload_n 3, 1) := by decide +kernel
theorem dX9_soldOf_5 : decode cX9_soldOf 5 = .ok (.aload_n 0, 1) := by decide +kernel
theorem dX9_soldOf_6 : decode cX9_soldOf 6 = .ok (.getfield 142, 3) := by decide +kernel
theorem dX9_soldOf_9 : decode cX9_soldOf 9 = .ok (.if_icmp .ge 45, 3) := by decide +kernel
theorem dX9_soldOf_12 : decode cX9_soldOf 12 = .ok (.aload_n 0, 1) := by decide +kernel
theorem dX9_soldOf_13 : decode cX9_soldOf 13 = .ok (.getfield 17, 3) := by decide +kernel
theorem dX9_soldOf_16 : decode cX9_soldOf 16 = .ok (.iload_n 3, 1) := by decide +kernel
theorem dX9_soldOf_17 : decode cX9_soldOf 17 = .ok (.aaload, 1) := by decide +kernel
theorem dX9_soldOf_18 : decode cX9_soldOf 18 = .ok (.astore 4, 2) := by decide +kernel
theorem dX9_soldOf_20 : decode cX9_soldOf 20 = .ok (.aload 4, 2) := by decide +kernel
theorem dX9_soldOf_22 : decode cX9_soldOf 22 = .ok (.ifnull 26, 3) := by decide +kernel
theorem dX9_soldOf_25 : decode cX9_soldOf 25 = .ok (.aload 4, 2) := by decide +kernel
theorem dX9_soldOf_27 : decode cX9_soldOf 27 = .ok (.getfield 155, 3) := by decide +kernel
theorem dX9_soldOf_30 : decode cX9_soldOf 30 = .ok (.getfield 159, 3) := by decide +kernel
theorem dX9_soldOf_33 : decode cX9_soldOf 33 = .ok (.iload_n 1, 1) := by decide +kernel
theorem dX9_soldOf_34 : decode cX9_soldOf 34 = .ok (.if_icmp .ne 14, 3) := by decide +kernel
theorem dX9_soldOf_37 : decode cX9_soldOf 37 = .ok (.aload 4, 2) := by decide +kernel
theorem dX9_soldOf_39 : decode cX9_soldOf 39 = .ok (.getfield 378, 3) := by decide +kernel
theorem dX9_soldOf_42 : decode cX9_soldOf 42 = .ok (.ifCond .le 6, 3) := by decide +kernel
theorem dX9_soldOf_45 : decode cX9_soldOf 45 = .ok (.iinc 2 1, 3) := by decide +kernel
theorem dX9_soldOf_48 : decode cX9_soldOf 48 = .ok (.iinc 3 1, 3) := by decide +kernel
theorem dX9_soldOf_51 : decode cX9_soldOf 51 = .ok (.goto (-47), 3) := by decide +kernel
theorem dX9_soldOf_54 : decode cX9_soldOf 54 = .ok (.iload_n 2, 1) := by decide +kernel
theorem dX9_soldOf_55 : decode cX9_soldOf 55 = .ok (.ireturn, 1) := by decide +kernel
theorem dX9_soldBy_0 : decode cX9_soldBy 0 = .ok (.iconst 0, 1) := by decide +kernel
theorem dX9_soldBy_1 : decode cX9_soldBy 1 = .ok (.istore_n 3, 1) := by decide +kernel
theorem dX9_soldBy_2 : decode cX9_soldBy 2 = .ok (.iconst 0, 1) := by decide +kernel
theorem dX9_soldBy_3 : decode cX9_soldBy 3 = .ok (.istore 4, 2) := by decide +kernel
theorem dX9_soldBy_5 : decode cX9_soldBy 5 = .ok (.iload 4, 2) := by decide +kernel
theorem dX9_soldBy_7 : decode cX9_soldBy 7 = .ok (.aload_n 0, 1) := by decide +kernel
theorem dX9_soldBy_8 : decode cX9_soldBy 8 = .ok (.getfield 37, 3) := by decide +kernel
theorem dX9_soldBy_11 : decode cX9_soldBy 11 = .ok (.getfield 199, 3) := by decide +kernel
theorem dX9_soldBy_14 : decode cX9_soldBy 14 = .ok (.if_icmp .ge 51, 3) := by decide +kernel
theorem dX9_soldBy_17 : decode cX9_soldBy 17 = .ok (.aload_n 0, 1) := by decide +kernel
theorem dX9_soldBy_18 : decode cX9_soldBy 18 = .ok (.getfield 37, 3) := by decide +kernel
theorem dX9_soldBy_21 : decode cX9_soldBy 21 = .ok (.getfield 280, 3) := by decide +kernel
theorem dX9_soldBy_24 : decode cX9_soldBy 24 = .ok (.iload 4, 2) := by decide +kernel
theorem dX9_soldBy_26 : decode cX9_soldBy 26 = .ok (.iaload, 1) := by decide +kernel
theorem dX9_soldBy_27 : decode cX9_soldBy 27 = .ok (.iload_n 1, 1) := by decide +kernel
theorem dX9_soldBy_28 : decode cX9_soldBy 28 = .ok (.if_icmp .ne 31, 3) := by decide +kernel
theorem dX9_soldBy_31 : decode cX9_soldBy 31 = .ok (.iload_n 2, 1) := by decide +kernel
theorem dX9_soldBy_32 : decode cX9_soldBy 32 = .ok (.ifCond .eq 24, 3) := by decide +kernel
theorem dX9_soldBy_35 : decode cX9_soldBy 35 = .ok (.aload_n 0, 1) := by decide +kernel
theorem dX9_soldBy_36 : decode cX9_soldBy 36 = .ok (.aload_n 0, 1) := by decide +kernel
theorem dX9_soldBy_37 : decode cX9_soldBy 37 = .ok (.aload_n 0, 1) := by decide +kernel
theorem dX9_soldBy_38 : decode cX9_soldBy 38 = .ok (.getfield 37, 3) := by decide +kernel
theorem dX9_soldBy_41 : decode cX9_soldBy 41 = .ok (.getfield 286, 3) := by decide +kernel
theorem dX9_soldBy_44 : decode cX9_soldBy 44 = .ok (.iload 4, 2) := by decide +kernel
theorem dX9_soldBy_46 : decode cX9_soldBy 46 = .ok (.iaload, 1) := by decide +kernel
theorem dX9_soldBy_47 : decode cX9_soldBy 47 = .ok (.invokevirtual 148, 3) := by decide +kernel
theorem dX9_soldBy_50 : decode cX9_soldBy 50 = .ok (.invokevirtual 169, 3) := by decide +kernel
theorem dX9_soldBy_53 : decode cX9_soldBy 53 = .ok (.ifCond .eq 6, 3) := by decide +kernel
theorem dX9_soldBy_56 : decode cX9_soldBy 56 = .ok (.iinc 3 1, 3) := by decide +kernel
theorem dX9_soldBy_59 : decode cX9_soldBy 59 = .ok (.iinc 4 1, 3) := by decide +kernel
theorem dX9_soldBy_62 : decode cX9_soldBy 62 = .ok (.goto (-57), 3) := by decide +kernel
theorem dX9_soldBy_65 : decode cX9_soldBy 65 = .ok (.iload_n 3, 1) := by decide +kernel
theorem dX9_soldBy_66 : decode cX9_soldBy 66 = .ok (.ireturn, 1) := by decide +kernel
theorem dX9_judged_0 : decode cX9_judged 0 = .ok (.aload_n 0, 1) := by decide +kernel
theorem dX9_judged_1 : decode cX9_judged 1 = .ok (.getfield 213, 3) := by decide +kernel
theorem dX9_judged_4 : decode cX9_judged 4 = .ok (.aload_n 0, 1) := by decide +kernel
theorem dX9_judged_5 : decode cX9_judged 5 = .ok (.getfield 102, 3) := by decide +kernel
theorem dX9_judged_8 : decode cX9_judged 8 = .ok (.invokestatic 136, 3) := by decide +kernel
theorem dX9_judged_11 : decode cX9_judged 11 = .ok (.ifCond .eq 24, 3) := by decide +kernel
theorem dX9_judged_14 : decode cX9_judged 14 = .ok (.aload_n 0, 1) := by decide +kernel
theorem dX9_judged_15 : decode cX9_judged 15 = .ok (.getfield 213, 3) := by decide +kernel
theorem dX9_judged_18 : decode cX9_judged 18 = .ok (.bipush 6, 2) := by decide +kernel
theorem dX9_judged_20 : decode cX9_judged 20 = .ok (.if_icmp .ge 15, 3) := by decide +kernel
theorem dX9_judged_23 : decode cX9_judged 23 = .ok (.aload_n 0, 1) := by decide +kernel
theorem dX9_judged_24 : decode cX9_judged 24 = .ok (.getfield 23, 3) := by decide +kernel
theorem dX9_judged_27 : decode cX9_judged 27 = .ok (.aload_n 0, 1) := by decide +kernel
theorem dX9_judged_28 : decode cX9_judged 28 = .ok (.getfield 213, 3) := by decide +kernel
theorem dX9_judged_31 : decode cX9_judged 31 = .ok (.aaload, 1) := by decide +kernel
theorem dX9_judged_32 : decode cX9_judged 32 = .ok (.goto 4, 3) := by decide +kernel
theorem dX9_judged_35 : decode cX9_judged 35 = .ok (.aconst_null, 1) := by decide +kernel
theorem dX9_judged_36 : decode cX9_judged 36 = .ok (.astore_n 3, 1) := by decide +kernel
theorem dX9_judged_37 : decode cX9_judged 37 = .ok (.iconst 0, 1) := by decide +kernel
theorem dX9_judged_38 : decode cX9_judged 38 = .ok (.istore 4, 2) := by decide +kernel
theorem dX9_judged_40 : decode cX9_judged 40 = .ok (.aload_n 3, 1) := by decide +kernel
theorem dX9_judged_41 : decode cX9_judged 41 = .ok (.ifnull 23, 3) := by decide +kernel
theorem dX9_judged_44 : decode cX9_judged 44 = .ok (.aload_n 0, 1) := by decide +kernel
theorem dX9_judged_45 : decode cX9_judged 45 = .ok (.aload_n 1, 1) := by decide +kernel
theorem dX9_judged_46 : decode cX9_judged 46 = .ok (.invokevirtual 381, 3) := by decide +kernel
theorem dX9_judged_49 : decode cX9_judged 49 = .ok (.aload_n 3, 1) := by decide +kernel
theorem dX9_judged_50 : decode cX9_judged 50 = .ok (.iload_n 2, 1) := by decide +kernel
theorem dX9_judged_51 : decode cX9_judged 51 = .ok (.aload_n 0, 1) := by decide +kernel
theorem dX9_judged_52 : decode cX9_judged 52 = .ok (.getfield 67, 3) := by decide +kernel
theorem dX9_judged_55 : decode cX9_judged 55 = .ok (.aload_n 0, 1) := by decide +kernel
theorem dX9_judged_56 : decode cX9_judged 56 = .ok (.getfield 71, 3) := by decide +kernel
theorem dX9_judged_59 : decode cX9_judged 59 = .ok (.invokevirtual 385, 3) := by decide +kernel
theorem dX9_judged_62 : decode cX9_judged 62 = .ok (.istore 4, 2) := by decide +kernel
theorem dX9_judged_64 : decode cX9_judged 64 = .ok (.iload_n 2, 1) := by decide +kernel
theorem dX9_judged_65 : decode cX9_judged 65 = .ok (.iconst 2, 1) := by decide +kernel
theorem dX9_judged_66 : decode cX9_judged 66 = .ok (.if_icmp .ne 7, 3) := by decide +kernel
theorem dX9_judged_69 : decode cX9_judged 69 = .ok (.iconst 1, 1) := by decide +kernel
theorem dX9_judged_70 : decode cX9_judged 70 = .ok (.goto 4, 3) := by decide +kernel
theorem dX9_judged_73 : decode cX9_judged 73 = .ok (.iconst 0, 1) := by decide +kernel
theorem dX9_judged_74 : decode cX9_judged 74 = .ok (.istore 5, 2) := by decide +kernel
theorem dX9_judged_76 : decode cX9_judged 76 = .ok (.iload_n 2, 1) := by decide +kernel
theorem dX9_judged_77 : decode cX9_judged 77 = .ok (.ifCond .ne 8, 3) := by decide +kernel
theorem dX9_judged_80 : decode cX9_judged 80 = .ok (.bipush 99, 2) := by decide +kernel
theorem dX9_judged_82 : decode cX9_judged 82 = .ok (.goto 17, 3) := by decide +kernel
theorem dX9_judged_85 : decode cX9_judged 85 = .ok (.iload_n 2, 1) := by decide +kernel
theorem dX9_judged_86 : decode cX9_judged 86 = .ok (.iconst 1, 1) := by decide +kernel
theorem dX9_judged_87 : decode cX9_judged 87 = .ok (.if_icmp .ne 9, 3) := by decide +kernel
theorem dX9_judged_90 : decode cX9_judged 90 = .ok (.sipush 9999, 3) := by decide +kernel
theorem dX9_judged_93 : decode cX9_judged 93 = .ok (.goto 6, 3) := by decide +kernel
theorem dX9_judged_96 : decode cX9_judged 96 = .ok (.sipush 999, 3) := by decide +kernel
theorem dX9_judged_99 : decode cX9_judged 99 = .ok (.istore 6, 2) := by decide +kernel
theorem dX9_judged_101 : decode cX9_judged 101 = .ok (.iload 5, 2) := by decide +kernel
theorem dX9_judged_103 : decode cX9_judged 103 = .ok (.iload 6, 2) := by decide +kernel
theorem dX9_judged_105 : decode cX9_judged 105 = .ok (.iload 4, 2) := by decide +kernel
theorem dX9_judged_107 : decode cX9_judged 107 = .ok (.invokestatic 389, 3) := by decide +kernel
theorem dX9_judged_110 : decode cX9_judged 110 = .ok (.invokestatic 222, 3) := by decide +kernel
theorem dX9_judged_113 : decode cX9_judged 113 = .ok (.ireturn, 1) := by decide +kernel
theorem dX9_learnNames_0 : decode cX9_learnNames 0 = .ok (.aload_n 0, 1) := by decide +kernel
theorem dX9_learnNames_1 : decode cX9_learnNames 1 = .ok (.getfield 67, 3) := by decide +kernel
theorem dX9_learnNames_4 : decode cX9_learnNames 4 = .ok (.iconst 0, 1) := by decide +kernel
theorem dX9_learnNames_5 : decode cX9_learnNames 5 = .ok (.aload_n 0, 1) := by decide +kernel
theorem dX9_learnNames_6 : decode cX9_learnNames 6 = .ok (.aload_n 1, 1) := by decide +kernel
theorem dX9_learnNames_7 : decode cX9_learnNames 7 = .ok (.invokevirtual 162, 3) := by decide +kernel
theorem dX9_learnNames_10 : decode cX9_learnNames 10 = .ok (.invokestatic 392, 3) := by decide +kernel
theorem dX9_learnNames_13 : decode cX9_learnNames 13 = .ok (.iastore, 1) := by decide +kernel
theorem dX9_learnNames_14 : decode cX9_learnNames 14 = .ok (.aload_n 0, 1) := by decide +kernel
theorem dX9_learnNames_15 : decode cX9_learnNames 15 = .ok (.getfield 67, 3) := by decide +kernel
theorem dX9_learnNames_18 : decode cX9_learnNames 18 = .ok (.iconst 1, 1) := by decide +kernel
theorem dX9_learnNames_19 : decode cX9_learnNames 19 = .ok (.aload_n 0, 1) := by decide +kernel
theorem dX9_learnNames_20 : decode cX9_learnNames 20 = .ok (.aload_n 1, 1) := by decide +kernel
theorem dX9_learnNames_21 : decode cX9_learnNames 21 = .ok (.invokevirtual 166, 3) := by decide +kernel
theorem dX9_learnNames_24 : decode cX9_learnNames 24 = .ok (.invokestatic 392, 3) := by decide +kernel
theorem dX9_learnNames_27 : decode cX9_learnNames 27 = .ok (.iastore, 1) := by decide +kernel
theorem dX9_learnNames_28 : decode cX9_learnNames 28 = .ok (.aload_n 0, 1) := by decide +kernel
theorem dX9_learnNames_29 : decode cX9_learnNames 29 = .ok (.getfield 67, 3) := by decide +kernel
theorem dX9_learnNames_32 : decode cX9_learnNames 32 = .ok (.iconst 2, 1) := by decide +kernel
theorem dX9_learnNames_33 : decode cX9_learnNames 33 = .ok (.aload_n 1, 1) := by decide +kernel
theorem dX9_learnNames_34 : decode cX9_learnNames 34 = .ok (.getfield 173, 3) := by decide +kernel
theorem dX9_learnNames_37 : decode cX9_learnNames 37 = .ok (.iastore, 1) := by decide +kernel
theorem dX9_learnNames_38 : decode cX9_learnNames 38 = .ok (.aload_n 0, 1) := by decide +kernel
theorem dX9_learnNames_39 : decode cX9_learnNames 39 = .ok (.getfield 67, 3) := by decide +kernel
theorem dX9_learnNames_42 : decode cX9_learnNames 42 = .ok (.iconst 3, 1) := by decide +kernel
theorem dX9_learnNames_43 : decode cX9_learnNames 43 = .ok (.aload_n 1, 1) := by decide +kernel
theorem dX9_learnNames_44 : decode cX9_learnNames 44 = .ok (.getfield 155, 3) := by decide +kernel
theorem dX9_learnNames_47 : decode cX9_learnNames 47 = .ok (.getfield 397, 3) := by decide +kernel
theorem dX9_learnNames_50 : decode cX9_learnNames 50 = .ok (.iastore, 1) := by decide +kernel
theorem dX9_learnNames_51 : decode cX9_learnNames 51 = .ok (.aload_n 0, 1) := by decide +kernel
theorem dX9_learnNames_52 : decode cX9_learnNames 52 = .ok (.getfield 67, 3) := by decide +kernel
theorem dX9_learnNames_55 : decode cX9_learnNames 55 = .ok (.iconst 4, 1) := by decide +kernel
theorem dX9_learnNames_56 : decode cX9_learnNames 56 = .ok (.aload_n 1, 1) := by decide +kernel
theorem dX9_learnNames_57 : decode cX9_learnNames 57 = .ok (.getfield 155, 3) := by decide +kernel
theorem dX9_learnNames_60 : decode cX9_learnNames 60 = .ok (.getfield 375, 3) := by decide +kernel
theorem dX9_learnNames_63 : decode cX9_learnNames 63 = .ok (.iastore, 1) := by decide +kernel
theorem dX9_learnNames_64 : decode cX9_learnNames 64 = .ok (.aload_n 0, 1) := by decide +kernel
theorem dX9_learnNames_65 : decode cX9_learnNames 65 = .ok (.getfield 67, 3) := by decide +kernel
theorem dX9_learnNames_68 : decode cX9_learnNames 68 = .ok (.iconst 5, 1) := by decide +kernel
theorem dX9_learnNames_69 : decode cX9_learnNames 69 = .ok (.aload_n 0, 1) := by decide +kernel
theorem dX9_learnNames_70 : decode cX9_learnNames 70 = .ok (.aload_n 1, 1) := by decide +kernel
theorem dX9_learnNames_71 : decode cX9_learnNames 71 = .ok (.getfield 155, 3) := by decide +kernel
theorem dX9_learnNames_74 : decode cX9_learnNames 74 = .ok (.getfield 159, 3) := by decide +kernel
theorem dX9_learnNames_77 : decode cX9_learnNames 77 = .ok (.invokevirtual 219, 3) := by decide +kernel
theorem dX9_learnNames_80 : decode cX9_learnNames 80 = .ok (.iastore, 1) := by decide +kernel
theorem dX9_learnNames_81 : decode cX9_learnNames 81 = .ok (.return_, 1) := by decide +kernel
theorem dX9_far_0 : decode cX9_far 0 = .ok (.iconst 0, 1) := by decide +kernel
theorem dX9_far_1 : decode cX9_far 1 = .ok (.istore 4, 2) := by decide +kernel
theorem dX9_far_3 : decode cX9_far 3 = .ok (.iconst 0, 1) := by decide +kernel
theorem dX9_far_4 : decode cX9_far 4 = .ok (.istore 5, 2) := by decide +kernel
theorem dX9_far_6 : decode cX9_far 6 = .ok (.iload 5, 2) := by decide +kernel
theorem dX9_far_8 : decode cX9_far 8 = .ok (.iconst 3, 1) := by decide +kernel
theorem dX9_far_9 : decode cX9_far 9 = .ok (.if_icmp .ge 51, 3) := by decide +kernel
theorem dX9_far_12 : decode cX9_far 12 = .ok (.iload_n 2, 1) := by decide +kernel
theorem dX9_far_13 : decode cX9_far 13 = .ok (.aload_n 0, 1) := by decide +kernel
theorem dX9_far_14 : decode cX9_far 14 = .ok (.iload 5, 2) := by decide +kernel
theorem dX9_far_16 : decode cX9_far 16 = .ok (.invokevirtual 399, 3) := by decide +kernel
theorem dX9_far_19 : decode cX9_far 19 = .ok (.imul, 1) := by decide +kernel
theorem dX9_far_20 : decode cX9_far 20 = .ok (.bipush 10, 2) := by decide +kernel
theorem dX9_far_22 : decode cX9_far 22 = .ok (.iload_n 2, 1) := by decide +kernel
theorem dX9_far_23 : decode cX9_far 23 = .ok (.isub, 1) := by decide +kernel
theorem dX9_far_24 : decode cX9_far 24 = .ok (.aload_n 1, 1) := by decide +kernel
theorem dX9_far_25 : decode cX9_far 25 = .ok (.iload 5, 2) := by decide +kernel
theorem dX9_far_27 : decode cX9_far 27 = .ok (.invokevirtual 399, 3) := by decide +kernel
theorem dX9_far_30 : decode cX9_far 30 = .ok (.imul, 1) := by decide +kernel
theorem dX9_far_31 : decode cX9_far 31 = .ok (.iadd, 1) := by decide +kernel
theorem dX9_far_32 : decode cX9_far 32 = .ok (.bipush 10, 2) := by decide +kernel
theorem dX9_far_34 : decode cX9_far 34 = .ok (.idiv, 1) := by decide +kernel
theorem dX9_far_35 : decode cX9_far 35 = .ok (.istore 6, 2) := by decide +kernel
theorem dX9_far_37 : decode cX9_far 37 = .ok (.iload 4, 2) := by decide +kernel
theorem dX9_far_39 : decode cX9_far 39 = .ok (.iload 6, 2) := by decide +kernel
theorem dX9_far_41 : decode cX9_far 41 = .ok (.aload_n 3, 1) := by decide +kernel
theorem dX9_far_42 : decode cX9_far 42 = .ok (.iload 5, 2) := by decide +kernel
theorem dX9_far_44 : decode cX9_far 44 = .ok (.invokevirtual 399, 3) := by decide +kernel
theorem dX9_far_47 : decode cX9_far 47 = .ok (.isub, 1) := by decide +kernel
theorem dX9_far_48 : decode cX9_far 48 = .ok (.invokestatic 402, 3) := by decide +kernel
theorem dX9_far_51 : decode cX9_far 51 = .ok (.iadd, 1) := by decide +kernel
theorem dX9_far_52 : decode cX9_far 52 = .ok (.istore 4, 2) := by decide +kernel
theorem dX9_far_54 : decode cX9_far 54 = .ok (.iinc 5 1, 3) := by decide +kernel
theorem dX9_far_57 : decode cX9_far 57 = .ok (.goto (-51), 3) := by decide +kernel
theorem dX9_far_60 : decode cX9_far 60 = .ok (.iload 4, 2) := by decide +kernel
theorem dX9_far_62 : decode cX9_far 62 = .ok (.ireturn, 1) := by decide +kernel
theorem dX9_weighDoubts_0 : decode cX9_weighDoubts 0 = .ok (.aload_n 0, 1) := by decide +kernel
theorem dX9_weighDoubts_1 : decode cX9_weighDoubts 1 = .ok (.getfield 142, 3) := by decide +kernel
theorem dX9_weighDoubts_4 : decode cX9_weighDoubts 4 = .ok (.bipush 10, 2) := by decide +kernel
theorem dX9_weighDoubts_6 : decode cX9_weighDoubts 6 = .ok (.invokestatic 389, 3) := by decide +kernel
theorem dX9_weighDoubts_9 : decode cX9_weighDoubts 9 = .ok (.istore_n 1, 1) := by decide +kernel
theorem dX9_weighDoubts_10 : decode cX9_weighDoubts 10 = .ok (.iconst 0, 1) := by decide +kernel
theorem dX9_weighDoubts_11 : decode cX9_weighDoubts 11 = .ok (.istore_n 2, 1) := by decide +kernel
theorem dX9_weighDoubts_12 : decode cX9_weighDoubts 12 = .ok (.iload_n 2, 1) := by decide +kernel
end
section
theorem dX9_weighDoubts_13 : decode cX9_weighDoubts 13 = .ok (.iload_n 1, 1) := by decide +kernel
theorem dX9_weighDoubts_14 : decode cX9_weighDoubts 14 = .ok (.if_icmp .ge 56, 3) := by decide +kernel
theorem dX9_weighDoubts_17 : decode cX9_weighDoubts 17 = .ok (.aload_n 0, 1) := by decide +kernel
theorem dX9_weighDoubts_18 : decode cX9_weighDoubts 18 = .ok (.getfield 17, 3) := by decide +kernel
theorem dX9_weighDoubts_21 : decode cX9_weighDoubts 21 = .ok (.iload_n 2, 1) := by decide +kernel
theorem dX9_weighDoubts_22 : decode cX9_weighDoubts 22 = .ok (.aaload, 1) := by decide +kernel
theorem dX9_weighDoubts_23 : decode cX9_weighDoubts 23 = .ok (.astore_n 3, 1) := by decide +kernel
theorem dX9_weighDoubts_24 : decode cX9_weighDoubts 24 = .ok (.aload_n 0, 1) := by decide +kernel
theorem dX9_weighDoubts_25 : decode cX9_weighDoubts 25 = .ok (.getfield 74, 3) := by decide +kernel
theorem dX9_weighDoubts_28 : decode cX9_weighDoubts 28 = .ok (.iload_n 2, 1) := by decide +kernel
theorem dX9_weighDoubts_29 : decode cX9_weighDoubts 29 = .ok (.aload_n 3, 1) := by decide +kernel
theorem dX9_weighDoubts_30 : decode cX9_weighDoubts 30 = .ok (.ifnonnull 7, 3) := by decide +kernel
theorem dX9_weighDoubts_33 : decode cX9_weighDoubts 33 = .ok (.iconst 0, 1) := by decide +kernel
theorem dX9_weighDoubts_34 : decode cX9_weighDoubts 34 = .ok (.goto 9, 3) := by decide +kernel
theorem dX9_weighDoubts_37 : decode cX9_weighDoubts 37 = .ok (.aload_n 0, 1) := by decide +kernel
theorem dX9_weighDoubts_38 : decode cX9_weighDoubts 38 = .ok (.aload_n 3, 1) := by decide +kernel
theorem dX9_weighDoubts_39 : decode cX9_weighDoubts 39 = .ok (.iconst 0, 1) := by decide +kernel
theorem dX9_weighDoubts_40 : decode cX9_weighDoubts 40 = .ok (.invokevirtual 183, 3) := by decide +kernel
theorem dX9_weighDoubts_43 : decode cX9_weighDoubts 43 = .ok (.iastore, 1) := by decide +kernel
theorem dX9_weighDoubts_44 : decode cX9_weighDoubts 44 = .ok (.aload_n 0, 1) := by decide +kernel
theorem dX9_weighDoubts_45 : decode cX9_weighDoubts 45 = .ok (.getfield 77, 3) := by decide +kernel
theorem dX9_weighDoubts_48 : decode cX9_weighDoubts 48 = .ok (.iload_n 2, 1) := by decide +kernel
theorem dX9_weighDoubts_49 : decode cX9_weighDoubts 49 = .ok (.aload_n 3, 1) := by decide +kernel
theorem dX9_weighDoubts_50 : decode cX9_weighDoubts 50 = .ok (.ifnonnull 7, 3) := by decide +kernel
theorem dX9_weighDoubts_53 : decode cX9_weighDoubts 53 = .ok (.iconst 0, 1) := by decide +kernel
theorem dX9_weighDoubts_54 : decode cX9_weighDoubts 54 = .ok (.goto 9, 3) := by decide +kernel
theorem dX9_weighDoubts_57 : decode cX9_weighDoubts 57 = .ok (.aload_n 0, 1) := by decide +kernel
theorem dX9_weighDoubts_58 : decode cX9_weighDoubts 58 = .ok (.aload_n 3, 1) := by decide +kernel
theorem dX9_weighDoubts_59 : decode cX9_weighDoubts 59 = .ok (.iconst 2, 1) := by decide +kernel
theorem dX9_weighDoubts_60 : decode cX9_weighDoubts 60 = .ok (.invokevirtual 183, 3) := by decide +kernel
theorem dX9_weighDoubts_63 : decode cX9_weighDoubts 63 = .ok (.iastore, 1) := by decide +kernel
theorem dX9_weighDoubts_64 : decode cX9_weighDoubts 64 = .ok (.iinc 2 1, 3) := by decide +kernel
theorem dX9_weighDoubts_67 : decode cX9_weighDoubts 67 = .ok (.goto (-55), 3) := by decide +kernel
theorem dX9_weighDoubts_70 : decode cX9_weighDoubts 70 = .ok (.iload_n 1, 1) := by decide +kernel
theorem dX9_weighDoubts_71 : decode cX9_weighDoubts 71 = .ok (.ireturn, 1) := by decide +kernel
theorem dX9_lowestBit_0 : decode cX9_lowestBit 0 = .ok (.iconst 0, 1) := by decide +kernel
theorem dX9_lowestBit_1 : decode cX9_lowestBit 1 = .ok (.istore_n 1, 1) := by decide +kernel
theorem dX9_lowestBit_2 : decode cX9_lowestBit 2 = .ok (.iload_n 1, 1) := by decide +kernel
theorem dX9_lowestBit_3 : decode cX9_lowestBit 3 = .ok (.bipush 9, 2) := by decide +kernel
theorem dX9_lowestBit_5 : decode cX9_lowestBit 5 = .ok (.if_icmp .ge 17, 3) := by decide +kernel
theorem dX9_lowestBit_8 : decode cX9_lowestBit 8 = .ok (.iload_n 0, 1) := by decide +kernel
theorem dX9_lowestBit_9 : decode cX9_lowestBit 9 = .ok (.iload_n 1, 1) := by decide +kernel
theorem dX9_lowestBit_10 : decode cX9_lowestBit 10 = .ok (.ishr, 1) := by decide +kernel
theorem dX9_lowestBit_11 : decode cX9_lowestBit 11 = .ok (.iconst 1, 1) := by decide +kernel
theorem dX9_lowestBit_12 : decode cX9_lowestBit 12 = .ok (.iand, 1) := by decide +kernel
theorem dX9_lowestBit_13 : decode cX9_lowestBit 13 = .ok (.ifCond .ne 9, 3) := by decide +kernel
theorem dX9_lowestBit_16 : decode cX9_lowestBit 16 = .ok (.iinc 1 1, 3) := by decide +kernel
theorem dX9_lowestBit_19 : decode cX9_lowestBit 19 = .ok (.goto (-17), 3) := by decide +kernel
theorem dX9_lowestBit_22 : decode cX9_lowestBit 22 = .ok (.iload_n 1, 1) := by decide +kernel
theorem dX9_lowestBit_23 : decode cX9_lowestBit 23 = .ok (.ireturn, 1) := by decide +kernel
theorem dX9_sumBelow_0 : decode cX9_sumBelow 0 = .ok (.iconst 0, 1) := by decide +kernel
theorem dX9_sumBelow_1 : decode cX9_sumBelow 1 = .ok (.istore_n 2, 1) := by decide +kernel
theorem dX9_sumBelow_2 : decode cX9_sumBelow 2 = .ok (.iconst 0, 1) := by decide +kernel
theorem dX9_sumBelow_3 : decode cX9_sumBelow 3 = .ok (.istore_n 3, 1) := by decide +kernel
theorem dX9_sumBelow_4 : decode cX9_sumBelow 4 = .ok (.iload_n 3, 1) := by decide +kernel
theorem dX9_sumBelow_5 : decode cX9_sumBelow 5 = .ok (.iload_n 1, 1) := by decide +kernel
theorem dX9_sumBelow_6 : decode cX9_sumBelow 6 = .ok (.if_icmp .ge 21, 3) := by decide +kernel
theorem dX9_sumBelow_9 : decode cX9_sumBelow 9 = .ok (.iload_n 3, 1) := by decide +kernel
theorem dX9_sumBelow_10 : decode cX9_sumBelow 10 = .ok (.aload_n 0, 1) := by decide +kernel
theorem dX9_sumBelow_11 : decode cX9_sumBelow 11 = .ok (.arraylength, 1) := by decide +kernel
theorem dX9_sumBelow_12 : decode cX9_sumBelow 12 = .ok (.if_icmp .ge 15, 3) := by decide +kernel
theorem dX9_sumBelow_15 : decode cX9_sumBelow 15 = .ok (.iload_n 2, 1) := by decide +kernel
theorem dX9_sumBelow_16 : decode cX9_sumBelow 16 = .ok (.aload_n 0, 1) := by decide +kernel
theorem dX9_sumBelow_17 : decode cX9_sumBelow 17 = .ok (.iload_n 3, 1) := by decide +kernel
theorem dX9_sumBelow_18 : decode cX9_sumBelow 18 = .ok (.iaload, 1) := by decide +kernel
theorem dX9_sumBelow_19 : decode cX9_sumBelow 19 = .ok (.iadd, 1) := by decide +kernel
theorem dX9_sumBelow_20 : decode cX9_sumBelow 20 = .ok (.istore_n 2, 1) := by decide +kernel
theorem dX9_sumBelow_21 : decode cX9_sumBelow 21 = .ok (.iinc 3 1, 3) := by decide +kernel
theorem dX9_sumBelow_24 : decode cX9_sumBelow 24 = .ok (.goto (-20), 3) := by decide +kernel
theorem dX9_sumBelow_27 : decode cX9_sumBelow 27 = .ok (.iload_n 2, 1) := by decide +kernel
theorem dX9_sumBelow_28 : decode cX9_sumBelow 28 = .ok (.ireturn, 1) := by decide +kernel
theorem dX9_passOnAgain_0 : decode cX9_passOnAgain 0 = .ok (.iconst 0, 1) := by decide +kernel
theorem dX9_passOnAgain_1 : decode cX9_passOnAgain 1 = .ok (.istore_n 1, 1) := by decide +kernel
theorem dX9_passOnAgain_2 : decode cX9_passOnAgain 2 = .ok (.iload_n 1, 1) := by decide +kernel
theorem dX9_passOnAgain_3 : decode cX9_passOnAgain 3 = .ok (.aload_n 0, 1) := by decide +kernel
theorem dX9_passOnAgain_4 : decode cX9_passOnAgain 4 = .ok (.getfield 142, 3) := by decide +kernel
theorem dX9_passOnAgain_7 : decode cX9_passOnAgain 7 = .ok (.if_icmp .ge 24, 3) := by decide +kernel
theorem dX9_passOnAgain_10 : decode cX9_passOnAgain 10 = .ok (.aload_n 0, 1) := by decide +kernel
theorem dX9_passOnAgain_11 : decode cX9_passOnAgain 11 = .ok (.getfield 17, 3) := by decide +kernel
theorem dX9_passOnAgain_14 : decode cX9_passOnAgain 14 = .ok (.iload_n 1, 1) := by decide +kernel
theorem dX9_passOnAgain_15 : decode cX9_passOnAgain 15 = .ok (.aaload, 1) := by decide +kernel
theorem dX9_passOnAgain_16 : decode cX9_passOnAgain 16 = .ok (.astore_n 2, 1) := by decide +kernel
theorem dX9_passOnAgain_17 : decode cX9_passOnAgain 17 = .ok (.aload_n 2, 1) := by decide +kernel
theorem dX9_passOnAgain_18 : decode cX9_passOnAgain 18 = .ok (.ifnull 7, 3) := by decide +kernel
theorem dX9_passOnAgain_21 : decode cX9_passOnAgain 21 = .ok (.aload_n 2, 1) := by decide +kernel
theorem dX9_passOnAgain_22 : decode cX9_passOnAgain 22 = .ok (.invokevirtual 405, 3) := by decide +kernel
theorem dX9_passOnAgain_25 : decode cX9_passOnAgain 25 = .ok (.iinc 1 1, 3) := by decide +kernel
theorem dX9_passOnAgain_28 : decode cX9_passOnAgain 28 = .ok (.goto (-26), 3) := by decide +kernel
theorem dX9_passOnAgain_31 : decode cX9_passOnAgain 31 = .ok (.iconst 0, 1) := by decide +kernel
theorem dX9_passOnAgain_32 : decode cX9_passOnAgain 32 = .ok (.istore_n 1, 1) := by decide +kernel
theorem dX9_passOnAgain_33 : decode cX9_passOnAgain 33 = .ok (.iload_n 1, 1) := by decide +kernel
theorem dX9_passOnAgain_34 : decode cX9_passOnAgain 34 = .ok (.aload_n 0, 1) := by decide +kernel
theorem dX9_passOnAgain_35 : decode cX9_passOnAgain 35 = .ok (.getfield 37, 3) := by decide +kernel
theorem dX9_passOnAgain_38 : decode cX9_passOnAgain 38 = .ok (.getfield 199, 3) := by decide +kernel
theorem dX9_passOnAgain_41 : decode cX9_passOnAgain 41 = .ok (.if_icmp .ge 58, 3) := by decide +kernel
theorem dX9_passOnAgain_44 : decode cX9_passOnAgain 44 = .ok (.aload_n 0, 1) := by decide +kernel
theorem dX9_passOnAgain_45 : decode cX9_passOnAgain 45 = .ok (.aload_n 0, 1) := by decide +kernel
theorem dX9_passOnAgain_46 : decode cX9_passOnAgain 46 = .ok (.getfield 37, 3) := by decide +kernel
theorem dX9_passOnAgain_49 : decode cX9_passOnAgain 49 = .ok (.getfield 286, 3) := by decide +kernel
theorem dX9_passOnAgain_52 : decode cX9_passOnAgain 52 = .ok (.iload_n 1, 1) := by decide +kernel
theorem dX9_passOnAgain_53 : decode cX9_passOnAgain 53 = .ok (.iaload, 1) := by decide +kernel
theorem dX9_passOnAgain_54 : decode cX9_passOnAgain 54 = .ok (.invokevirtual 148, 3) := by decide +kernel
theorem dX9_passOnAgain_57 : decode cX9_passOnAgain 57 = .ok (.astore_n 2, 1) := by decide +kernel
theorem dX9_passOnAgain_58 : decode cX9_passOnAgain 58 = .ok (.aload_n 2, 1) := by decide +kernel
theorem dX9_passOnAgain_59 : decode cX9_passOnAgain 59 = .ok (.ifnull 34, 3) := by decide +kernel
theorem dX9_passOnAgain_62 : decode cX9_passOnAgain 62 = .ok (.aload_n 2, 1) := by decide +kernel
theorem dX9_passOnAgain_63 : decode cX9_passOnAgain 63 = .ok (.aload_n 0, 1) := by decide +kernel
theorem dX9_passOnAgain_64 : decode cX9_passOnAgain 64 = .ok (.getfield 37, 3) := by decide +kernel
theorem dX9_passOnAgain_67 : decode cX9_passOnAgain 67 = .ok (.getfield 280, 3) := by decide +kernel
theorem dX9_passOnAgain_70 : decode cX9_passOnAgain 70 = .ok (.iload_n 1, 1) := by decide +kernel
theorem dX9_passOnAgain_71 : decode cX9_passOnAgain 71 = .ok (.iaload, 1) := by decide +kernel
theorem dX9_passOnAgain_72 : decode cX9_passOnAgain 72 = .ok (.aload_n 0, 1) := by decide +kernel
theorem dX9_passOnAgain_73 : decode cX9_passOnAgain 73 = .ok (.getfield 37, 3) := by decide +kernel
theorem dX9_passOnAgain_76 : decode cX9_passOnAgain 76 = .ok (.getfield 283, 3) := by decide +kernel
theorem dX9_passOnAgain_79 : decode cX9_passOnAgain 79 = .ok (.iload_n 1, 1) := by decide +kernel
theorem dX9_passOnAgain_80 : decode cX9_passOnAgain 80 = .ok (.iaload, 1) := by decide +kernel
theorem dX9_passOnAgain_81 : decode cX9_passOnAgain 81 = .ok (.aload_n 0, 1) := by decide +kernel
theorem dX9_passOnAgain_82 : decode cX9_passOnAgain 82 = .ok (.getfield 37, 3) := by decide +kernel
theorem dX9_passOnAgain_85 : decode cX9_passOnAgain 85 = .ok (.getfield 307, 3) := by decide +kernel
theorem dX9_passOnAgain_88 : decode cX9_passOnAgain 88 = .ok (.iload_n 1, 1) := by decide +kernel
theorem dX9_passOnAgain_89 : decode cX9_passOnAgain 89 = .ok (.iaload, 1) := by decide +kernel
theorem dX9_passOnAgain_90 : decode cX9_passOnAgain 90 = .ok (.invokevirtual 205, 3) := by decide +kernel
theorem dX9_passOnAgain_93 : decode cX9_passOnAgain 93 = .ok (.iinc 1 1, 3) := by decide +kernel
theorem dX9_passOnAgain_96 : decode cX9_passOnAgain 96 = .ok (.goto (-63), 3) := by decide +kernel
theorem dX9_passOnAgain_99 : decode cX9_passOnAgain 99 = .ok (.return_, 1) := by decide +kernel
theorem dX10_in_0 : decode cX10_in 0 = .ok (.lload_n 0, 1) := by decide +kernel
theorem dX10_in_1 : decode cX10_in 1 = .ok (.lload_n 2, 1) := by decide +kernel
theorem dX10_in_2 : decode cX10_in 2 = .ok (.lcmp, 1) := by decide +kernel
theorem dX10_in_3 : decode cX10_in 3 = .ok (.ifCond .lt 14, 3) := by decide +kernel
theorem dX10_in_6 : decode cX10_in 6 = .ok (.lload_n 0, 1) := by decide +kernel
theorem dX10_in_7 : decode cX10_in 7 = .ok (.lload 4, 2) := by decide +kernel
theorem dX10_in_9 : decode cX10_in 9 = .ok (.lcmp, 1) := by decide +kernel
theorem dX10_in_10 : decode cX10_in 10 = .ok (.ifCond .gt 7, 3) := by decide +kernel
theorem dX10_in_13 : decode cX10_in 13 = .ok (.iconst 1, 1) := by decide +kernel
theorem dX10_in_14 : decode cX10_in 14 = .ok (.goto 4, 3) := by decide +kernel
theorem dX10_in_17 : decode cX10_in 17 = .ok (.iconst 0, 1) := by decide +kernel
theorem dX10_in_18 : decode cX10_in 18 = .ok (.ireturn, 1) := by decide +kernel
theorem dX10_init_0 : decode cX10_init 0 = .ok (.aload_n 0, 1) := by decide +kernel
theorem dX10_init_1 : decode cX10_init 1 = .ok (.invokespecial 7, 3) := by decide +kernel
theorem dX10_init_4 : decode cX10_init 4 = .ok (.aload_n 0, 1) := by decide +kernel
theorem dX10_init_5 : decode cX10_init 5 = .ok (.sipush 960, 3) := by decide +kernel
theorem dX10_init_8 : decode cX10_init 8 = .ok (.newarray .int, 2) := by decide +kernel
theorem dX10_init_10 : decode cX10_init 10 = .ok (.putfield 13, 3) := by decide +kernel
theorem dX10_init_13 : decode cX10_init 13 = .ok (.aload_n 0, 1) := by decide +kernel
theorem dX10_init_14 : decode cX10_init 14 = .ok (.bipush 6, 2) := by decide +kernel
theorem dX10_init_16 : decode cX10_init 16 = .ok (.newarray .int, 2) := by decide +kernel
theorem dX10_init_18 : decode cX10_init 18 = .ok (.putfield 17, 3) := by decide +kernel
theorem dX10_init_21 : decode cX10_init 21 = .ok (.aload_n 0, 1) := by decide +kernel
theorem dX10_init_22 : decode cX10_init 22 = .ok (.sipush 160, 3) := by decide +kernel
theorem dX10_init_25 : decode cX10_init 25 = .ok (.newarray .int, 2) := by decide +kernel
theorem dX10_init_27 : decode cX10_init 27 = .ok (.putfield 20, 3) := by decide +kernel
theorem dX10_init_30 : decode cX10_init 30 = .ok (.aload_n 0, 1) := by decide +kernel
theorem dX10_init_31 : decode cX10_init 31 = .ok (.bipush 8, 2) := by decide +kernel
theorem dX10_init_33 : decode cX10_init 33 = .ok (.newarray .int, 2) := by decide +kernel
theorem dX10_init_35 : decode cX10_init 35 = .ok (.putfield 23, 3) := by decide +kernel
theorem dX10_init_38 : decode cX10_init 38 = .ok (.aload_n 0, 1) := by decide +kernel
theorem dX10_init_39 : decode cX10_init 39 = .ok (.bipush 8, 2) := by decide +kernel
theorem dX10_init_41 : decode cX10_init 41 = .ok (.newarray .int, 2) := by decide +kernel
theorem dX10_init_43 : decode cX10_init 43 = .ok (.putfield 26, 3) := by decide +kernel
theorem dX10_init_46 : decode cX10_init 46 = .ok (.aload_n 0, 1) := by decide +kernel
theorem dX10_init_47 : decode cX10_init 47 = .ok (.bipush 8, 2) := by decide +kernel
theorem dX10_init_49 : decode cX10_init 49 = .ok (.newarray .int, 2) := by decide +kernel
theorem dX10_init_51 : decode cX10_init 51 = .ok (.putfield 29, 3) := by decide +kernel
theorem dX10_init_54 : decode cX10_init 54 = .ok (.aload_n 0, 1) := by decide +kernel
theorem dX10_init_55 : decode cX10_init 55 = .ok (.bipush 8, 2) := by decide +kernel
theorem dX10_init_57 : decode cX10_init 57 = .ok (.newarray .int, 2) := by decide +kernel
theorem dX10_init_59 : decode cX10_init 59 = .ok (.putfield 32, 3) := by decide +kernel
theorem dX10_init_62 : decode cX10_init 62 = .ok (.aload_n 0, 1) := by decide +kernel
theorem dX10_init_63 : decode cX10_init 63 = .ok (.bipush 8, 2) := by decide +kernel
theorem dX10_init_65 : decode cX10_init 65 = .ok (.newarray .int, 2) := by decide +kernel
theorem dX10_init_67 : decode cX10_init 67 = .ok (.putfield 35, 3) := by decide +kernel
theorem dX10_init_70 : decode cX10_init 70 = .ok (.aload_n 0, 1) := by decide +kernel
theorem dX10_init_71 : decode cX10_init 71 = .ok (.bipush 12, 2) := by decide +kernel
theorem dX10_init_73 : decode cX10_init 73 = .ok (.newarray .int, 2) := by decide +kernel
theorem dX10_init_75 : decode cX10_init 75 = .ok (.putfield 38, 3) := by decide +kernel
theorem dX10_init_78 : decode cX10_init 78 = .ok (.aload_n 0, 1) := by decide +kernel
theorem dX10_init_79 : decode cX10_init 79 = .ok (.bipush 12, 2) := by decide +kernel
theorem dX10_init_81 : decode cX10_init 81 = .ok (.newarray .int, 2) := by decide +kernel
theorem dX10_init_83 : decode cX10_init 83 = .ok (.putfield 41, 3) := by decide +kernel
theorem dX10_init_86 : decode cX10_init 86 = .ok (.aload_n 0, 1) := by decide +kernel
theorem dX10_init_87 : decode cX10_init 87 = .ok (.iconst 3, 1) := by decide +kernel
theorem dX10_init_88 : decode cX10_init 88 = .ok (.newarray .int, 2) := by decide +kernel
theorem dX10_init_90 : decode cX10_init 90 = .ok (.putfield 44, 3) := by decide +kernel
theorem dX10_init_93 : decode cX10_init 93 = .ok (.aload_n 0, 1) := by decide +kernel
theorem dX10_init_94 : decode cX10_init 94 = .ok (.bipush 24, 2) := by decide +kernel
theorem dX10_init_96 : decode cX10_init 96 = .ok (.newarray .int, 2) := by decide +kernel
theorem dX10_init_98 : decode cX10_init 98 = .ok (.putfield 47, 3) := by decide +kernel
theorem dX10_init_101 : decode cX10_init 101 = .ok (.aload_n 0, 1) := by decide +kernel
theorem dX10_init_102 : decode cX10_init 102 = .ok (.bipush 24, 2) := by decide +kernel
theorem dX10_init_104 : decode cX10_init 104 = .ok (.newarray .int, 2) := by decide +kernel
theorem dX10_init_106 : decode cX10_init 106 = .ok (.putfield 50, 3) := by decide +kernel
theorem dX10_init_109 : decode cX10_init 109 = .ok (.aload_n 0, 1) := by decide +kernel
theorem dX10_init_110 : decode cX10_init 110 = .ok (.bipush 24, 2) := by decide +kernel
theorem dX10_init_112 : decode cX10_init 112 = .ok (.newarray .int, 2) := by decide +kernel
theorem dX10_init_114 : decode cX10_init 114 = .ok (.putfield 53, 3) := by decide +kernel
theorem dX10_init_117 : decode cX10_init 117 = .ok (.aload_n 0, 1) := by decide +kernel
theorem dX10_init_118 : decode cX10_init 118 = .ok (.bipush 24, 2) := by decide +kernel
theorem dX10_init_120 : decode cX10_init 120 = .ok (.newarray .int, 2) := by decide +kernel
theorem dX10_init_122 : decode cX10_init 122 = .ok (.putfield 56, 3) := by decide +kernel
theorem dX10_init_125 : decode cX10_init 125 = .ok (.aload_n 0, 1) := by decide +kernel
theorem dX10_init_126 : decode cX10_init 126 = .ok (.bipush 40, 2) := by decide +kernel
theorem dX10_init_128 : decode cX10_init 128 = .ok (.newarray .int, 2) := by decide +kernel
theorem dX10_init_130 : decode cX10_init 130 = .ok (.putfield 59, 3) := by decide +kernel
theorem dX10_init_133 : decode cX10_init 133 = .ok (.aload_n 0, 1) := by decide +kernel
theorem dX10_init_134 : decode cX10_init 134 = .ok (.bipush 40, 2) := by decide +kernel
theorem dX10_init_136 : decode cX10_init 136 = .ok (.newarray .int, 2) := by decide +kernel
theorem dX10_init_138 : decode cX10_init 138 = .ok (.putfield 62, 3) := by decide +kernel
theorem dX10_init_141 : decode cX10_init 141 = .ok (.aload_n 0, 1) := by decide +kernel
theorem dX10_init_142 : decode cX10_init 142 = .ok (.bipush 40, 2) := by decide +kernel
theorem dX10_init_144 : decode cX10_init 144 = .ok (.newarray .int, 2) := by decide +kernel
theorem dX10_init_146 : decode cX10_init 146 = .ok (.putfield 65, 3) := by decide +kernel
theorem dX10_init_149 : decode cX10_init 149 = .ok (.aload_n 0, 1) := by decide +kernel
theorem dX10_init_150 : decode cX10_init 150 = .ok (.bipush 40, 2) := by decide +kernel
theorem dX10_init_152 : decode cX10_init 152 = .ok (.newarray .int, 2) := by decide +kernel
theorem dX10_init_154 : decode cX10_init 154 = .ok (.putfield 68, 3) := by decide +kernel
theorem dX10_init_157 : decode cX10_init 157 = .ok (.aload_n 0, 1) := by decide +kernel
theorem dX10_init_158 : decode cX10_init 158 = .ok (.bipush 40, 2) := by decide +kernel
theorem dX10_init_160 : decode cX10_init 160 = .ok (.newarray .int, 2) := by decide +kernel
theorem dX10_init_162 : decode cX10_init 162 = .ok (.putfield 71, 3) := by decide +kernel
theorem dX10_init_165 : decode cX10_init 165 = .ok (.aload_n 0, 1) := by decide +kernel
theorem dX10_init_166 : decode cX10_init 166 = .ok (.bipush 6, 2) := by decide +kernel
theorem dX10_init_168 : decode cX10_init 168 = .ok (.newarray .int, 2) := by decide +kernel
theorem dX10_init_170 : decode cX10_init 170 = .ok (.putfield 74, 3) := by decide +kernel
theorem dX10_init_173 : decode cX10_init 173 = .ok (.aload_n 0, 1) := by decide +kernel
theorem dX10_init_174 : decode cX10_init 174 = .ok (.bipush 72, 2) := by decide +kernel
theorem dX10_init_176 : decode cX10_init 176 = .ok (.newarray .int, 2) := by decide +kernel
theorem dX10_init_178 : decode cX10_init 178 = .ok (.putfield 77, 3) := by decide +kernel
theorem dX10_init_181 : decode cX10_init 181 = .ok (.aload_n 0, 1) := by decide +kernel
theorem dX10_init_182 : decode cX10_init 182 = .ok (.bipush 72, 2) := by decide +kernel
theorem dX10_init_184 : decode cX10_init 184 = .ok (.newarray .int, 2) := by decide +kernel
theorem dX10_init_186 : decode cX10_init 186 = .ok (.putfield 80, 3) := by decide +kernel
theorem dX10_init_189 : decode cX10_init 189 = .ok (.aload_n 0, 1) := by decide +kernel
theorem dX10_init_190 : decode cX10_init 190 = .ok (.bipush 72, 2) := by decide +kernel
theorem dX10_init_192 : decode cX10_init 192 = .ok (.newarray .int, 2) := by decide +kernel
theorem dX10_init_194 : decode cX10_init 194 = .ok (.putfield 83, 3) := by decide +kernel
theorem dX10_init_197 : decode cX10_init 197 = .ok (.aload_n 0, 1) := by decide +kernel
theorem dX10_init_198 : decode cX10_init 198 = .ok (.bipush 10, 2) := by decide +kernel
theorem dX10_init_200 : decode cX10_init 200 = .ok (.newarray .int, 2) := by decide +kernel
theorem dX10_init_202 : decode cX10_init 202 = .ok (.putfield 86, 3) := by decide +kernel
theorem dX10_init_205 : decode cX10_init 205 = .ok (.aload_n 0, 1) := by decide +kernel
theorem dX10_init_206 : decode cX10_init 206 = .ok (.bipush 10, 2) := by decide +kernel
theorem dX10_init_208 : decode cX10_init 208 = .ok (.newarray .int, 2) := by decide +kernel
theorem dX10_init_210 : decode cX10_init 210 = .ok (.putfield 89, 3) := by decide +kernel
theorem dX10_init_213 : decode cX10_init 213 = .ok (.aload_n 0, 1) := by decide +kernel
theorem dX10_init_214 : decode cX10_init 214 = .ok (.bipush 8, 2) := by decide +kernel
theorem dX10_init_216 : decode cX10_init 216 = .ok (.newarray .int, 2) := by decide +kernel
theorem dX10_init_218 : decode cX10_init 218 = .ok (.putfield 92, 3) := by decide +kernel
theorem dX10_init_221 : decode cX10_init 221 = .ok (.aload_n 0, 1) := by decide +kernel
theorem dX10_init_222 : decode cX10_init 222 = .ok (.bipush 12, 2) := by decide +kernel
theorem dX10_init_224 : decode cX10_init 224 = .ok (.newarray .int, 2) := by decide +kernel
theorem dX10_init_226 : decode cX10_init 226 = .ok (.putfield 95, 3) := by decide +kernel
theorem dX10_init_229 : decode cX10_init 229 = .ok (.aload_n 0, 1) := by decide +kernel
theorem dX10_init_230 : decode cX10_init 230 = .ok (.bipush 12, 2) := by decide +kernel
theorem dX10_init_232 : decode cX10_init 232 = .ok (.newarray .int, 2) := by decide +kernel
theorem dX10_init_234 : decode cX10_init 234 = .ok (.putfield 98, 3) := by decide +kernel
theorem dX10_init_237 : decode cX10_init 237 = .ok (.aload_n 0, 1) := by decide +kernel
theorem dX10_init_238 : decode cX10_init 238 = .ok (.iconst 3, 1) := by decide +kernel
theorem dX10_init_239 : decode cX10_init 239 = .ok (.newarray .int, 2) := by decide +kernel
theorem dX10_init_241 : decode cX10_init 241 = .ok (.putfield 101, 3) := by decide +kernel
theorem dX10_init_244 : decode cX10_init 244 = .ok (.aload_n 0, 1) := by decide +kernel
theorem dX10_init_245 : decode cX10_init 245 = .ok (.iconst 4, 1) := by decide +kernel
theorem dX10_init_246 : decode cX10_init 246 = .ok (.newarray .boolean, 2) := by decide +kernel
theorem dX10_init_248 : decode cX10_init 248 = .ok (.putfield 104, 3) := by decide +kernel
theorem dX10_init_251 : decode cX10_init 251 = .ok (.aload_n 0, 1) := by decide +kernel
theorem dX10_init_252 : decode cX10_init 252 = .ok (.iconst 4, 1) := by decide +kernel
theorem dX10_init_253 : decode cX10_init 253 = .ok (.newarray .int, 2) := by decide +kernel
theorem dX10_init_255 : decode cX10_init 255 = .ok (.putfield 108, 3) := by decide +kernel
theorem dX10_init_258 : decode cX10_init 258 = .ok (.aload_n 0, 1) := by decide +kernel
theorem dX10_init_259 : decode cX10_init 259 = .ok (.iconst 4, 1) := by decide +kernel
theorem dX10_init_260 : decode cX10_init 260 = .ok (.newarray .int, 2) := by decide +kernel
theorem dX10_init_262 : decode cX10_init 262 = .ok (.putfield 111, 3) := by decide +kernel
theorem dX10_init_265 : decode cX10_init 265 = .ok (.aload_n 0, 1) := by decide +kernel
theorem dX10_init_266 : decode cX10_init 266 = .ok (.sipush 160, 3) := by decide +kernel
theorem dX10_init_269 : decode cX10_init 269 = .ok (.newarray .int, 2) := by decide +kernel
theorem dX10_init_271 : decode cX10_init 271 = .ok (.putfield 114, 3) := by decide +kernel
theorem dX10_init_274 : decode cX10_init 274 = .ok (.aload_n 0, 1) := by decide +kernel
theorem dX10_init_275 : decode cX10_init 275 = .ok (.iconst 0, 1) := by decide +kernel
theorem dX10_init_276 : decode cX10_init 276 = .ok (.ldc2_w 117, 3) := by decide +kernel
theorem dX10_init_279 : decode cX10_init 279 = .ok (.invokevirtual 119, 3) := by decide +kernel
theorem dX10_init_282 : decode cX10_init 282 = .ok (.aload_n 0, 1) := by decide +kernel
theorem dX10_init_283 : decode cX10_init 283 = .ok (.bipush 8, 2) := by decide +kernel
theorem dX10_init_285 : decode cX10_init 285 = .ok (.ldc2_w 123, 3) := by decide +kernel
theorem dX10_init_288 : decode cX10_init 288 = .ok (.invokevirtual 119, 3) := by decide +kernel
theorem dX10_init_291 : decode cX10_init 291 = .ok (.aload_n 0, 1) := by decide +kernel
theorem dX10_init_292 : decode cX10_init 292 = .ok (.bipush 16, 2) := by decide +kernel
theorem dX10_init_294 : decode cX10_init 294 = .ok (.ldc2_w 125, 3) := by decide +kernel
theorem dX10_init_297 : decode cX10_init 297 = .ok (.invokevirtual 119, 3) := by decide +kernel
theorem dX10_init_300 : decode cX10_init 300 = .ok (.aload_n 0, 1) := by decide +kernel
theorem dX10_init_301 : decode cX10_init 301 = .ok (.bipush 24, 2) := by decide +kernel
theorem dX10_init_303 : decode cX10_init 303 = .ok (.ldc2_w 127, 3) := by decide +kernel
theorem dX10_init_306 : decode cX10_init 306 = .ok (.invokevirtual 119, 3) := by decide +kernel
theorem dX10_init_309 : decode cX10_init 309 = .ok (.aload_n 0, 1) := by decide +kernel
theorem dX10_init_310 : decode cX10_init 310 = .ok (.bipush 32, 2) := by decide +kernel
theorem dX10_init_312 : decode cX10_init 312 = .ok (.ldc2_w 129, 3) := by decide +kernel
theorem dX10_init_315 : decode cX10_init 315 = .ok (.invokevirtual 119, 3) := by decide +kernel
theorem dX10_init_318 : decode cX10_init 318 = .ok (.aload_n 0, 1) := by decide +kernel
theorem dX10_init_319 : decode cX10_init 319 = .ok (.bipush 40, 2) := by decide +kernel
theorem dX10_init_321 : decode cX10_init 321 = .ok (.ldc2_w 131, 3) := by decide +kernel
theorem dX10_init_324 : decode cX10_init 324 = .ok (.invokevirtual 119, 3) := by decide +kernel
theorem dX10_init_327 : decode cX10_init 327 = .ok (.aload_n 0, 1) := by decide +kernel
theorem dX10_init_328 : decode cX10_init 328 = .ok (.bipush 48, 2) := by decide +kernel
theorem dX10_init_330 : decode cX10_init 330 = .ok (.ldc2_w 133, 3) := by decide +kernel
theorem dX10_init_333 : decode cX10_init 333 = .ok (.invokevirtual 119, 3) := by decide +kernel
theorem dX10_init_336 : decode cX10_init 336 = .ok (.aload_n 0, 1) := by decide +kernel
theorem dX10_init_337 : decode cX10_init 337 = .ok (.bipush 56, 2) := by decide +kernel
theorem dX10_init_339 : decode cX10_init 339 = .ok (.ldc2_w 135, 3) := by decide +kernel
theorem dX10_init_342 : decode cX10_init 342 = .ok (.invokevirtual 119, 3) := by decide +kernel
theorem dX10_init_345 : decode cX10_init 345 = .ok (.aload_n 0, 1) := by decide +kernel
theorem dX10_init_346 : decode cX10_init 346 = .ok (.bipush 64, 2) := by decide +kernel
theorem dX10_init_348 : decode cX10_init 348 = .ok (.ldc2_w 137, 3) := by decide +kernel
theorem dX10_init_351 : decode cX10_init 351 = .ok (.invokevirtual 119, 3) := by decide +kernel
theorem dX10_init_354 : decode cX10_init 354 = .ok (.aload_n 0, 1) := by decide +kernel
theorem dX10_init_355 : decode cX10_init 355 = .ok (.bipush 72, 2) := by decide +kernel
theorem dX10_init_357 : decode cX10_init 357 = .ok (.ldc2_w 139, 3) := by decide +kernel
theorem dX10_init_360 : decode cX10_init 360 = .ok (.invokevirtual 119, 3) := by decide +kernel
theorem dX10_init_363 : decode cX10_init 363 = .ok (.aload_n 0, 1) := by decide +kernel
theorem dX10_init_364 : decode cX10_init 364 = .ok (.getfield 17, 3) := by decide +kernel
theorem dX10_init_367 : decode cX10_init 367 = .ok (.iconst 0, 1) := by decide +kernel
theorem dX10_init_368 : decode cX10_init 368 = .ok (.bipush 80, 2) := by decide +kernel
theorem dX10_init_370 : decode cX10_init 370 = .ok (.iastore, 1) := by decide +kernel
theorem dX10_init_371 : decode cX10_init 371 = .ok (.aload_n 0, 1) := by decide +kernel
theorem dX10_init_372 : decode cX10_init 372 = .ok (.iconst 1, 1) := by decide +kernel
theorem dX10_init_373 : decode cX10_init 373 = .ok (.putfield 141, 3) := by decide +kernel
theorem dX10_init_376 : decode cX10_init 376 = .ok (.iconst 0, 1) := by decide +kernel
theorem dX10_init_377 : decode cX10_init 377 = .ok (.istore_n 1, 1) := by decide +kernel
theorem dX10_init_378 : decode cX10_init 378 = .ok (.iload_n 1, 1) := by decide +kernel
theorem dX10_init_379 : decode cX10_init 379 = .ok (.bipush 12, 2) := by decide +kernel
theorem dX10_init_381 : decode cX10_init 381 = .ok (.if_icmp .ge 17, 3) := by decide +kernel
theorem dX10_init_384 : decode cX10_init 384 = .ok (.aload_n 0, 1) := by decide +kernel
theorem dX10_init_385 : decode cX10_init 385 = .ok (.getfield 41, 3) := by decide +kernel
theorem dX10_init_388 : decode cX10_init 388 = .ok (.iload_n 1, 1) := by decide +kernel
theorem dX10_init_389 : decode cX10_init 389 = .ok (.bipush 99, 2) := by decide +kernel
theorem dX10_init_391 : decode cX10_init 391 = .ok (.iastore, 1) := by decide +kernel
theorem dX10_init_392 : decode cX10_init 392 = .ok (.iinc 1 1, 3) := by decide +kernel
theorem dX10_init_395 : decode cX10_init 395 = .ok (.goto (-17), 3) := by decide +kernel
theorem dX10_init_398 : decode cX10_init 398 = .ok (.iconst 0, 1) := by decide +kernel
theorem dX10_init_399 : decode cX10_init 399 = .ok (.istore_n 1, 1) := by decide +kernel
theorem dX10_init_400 : decode cX10_init 400 = .ok (.iload_n 1, 1) := by decide +kernel
theorem dX10_init_401 : decode cX10_init 401 = .ok (.iconst 3, 1) := by decide +kernel
theorem dX10_init_402 : decode cX10_init 402 = .ok (.if_icmp .ge 17, 3) := by decide +kernel
theorem dX10_init_405 : decode cX10_init 405 = .ok (.aload_n 0, 1) := by decide +kernel
theorem dX10_init_406 : decode cX10_init 406 = .ok (.getfield 44, 3) := by decide +kernel
theorem dX10_init_409 : decode cX10_init 409 = .ok (.iload_n 1, 1) := by decide +kernel
theorem dX10_init_410 : decode cX10_init 410 = .ok (.bipush 100, 2) := by decide +kernel
theorem dX10_init_412 : decode cX10_init 412 = .ok (.iastore, 1) := by decide +kernel
theorem dX10_init_413 : decode cX10_init 413 = .ok (.iinc 1 1, 3) := by decide +kernel
theorem dX10_init_416 : decode cX10_init 416 = .ok (.goto (-16), 3) := by decide +kernel
theorem dX10_init_419 : decode cX10_init 419 = .ok (.return_, 1) := by decide +kernel
theorem dX10_spell_0 : decode cX10_spell 0 = .ok (.iconst 0, 1) := by decide +kernel
theorem dX10_spell_1 : decode cX10_spell 1 = .ok (.istore 4, 2) := by decide +kernel
theorem dX10_spell_3 : decode cX10_spell 3 = .ok (.iload 4, 2) := by decide +kernel
theorem dX10_spell_5 : decode cX10_spell 5 = .ok (.bipush 8, 2) := by decide +kernel
theorem dX10_spell_7 : decode cX10_spell 7 = .ok (.if_icmp .ge 33, 3) := by decide +kernel
theorem dX10_spell_10 : decode cX10_spell 10 = .ok (.aload_n 0, 1) := by decide +kernel
theorem dX10_spell_11 : decode cX10_spell 11 = .ok (.getfield 13, 3) := by decide +kernel
theorem dX10_spell_14 : decode cX10_spell 14 = .ok (.iload_n 1, 1) := by decide +kernel
theorem dX10_spell_15 : decode cX10_spell 15 = .ok (.iload 4, 2) := by decide +kernel
theorem dX10_spell_17 : decode cX10_spell 17 = .ok (.iadd, 1) := by decide +kernel
theorem dX10_spell_18 : decode cX10_spell 18 = .ok (.lload_n 2, 1) := by decide +kernel
theorem dX10_spell_19 : decode cX10_spell 19 = .ok (.bipush 56, 2) := by decide +kernel
theorem dX10_spell_21 : decode cX10_spell 21 = .ok (.bipush 8, 2) := by decide +kernel
theorem dX10_spell_23 : decode cX10_spell 23 = .ok (.iload 4, 2) := by decide +kernel
theorem dX10_spell_25 : decode cX10_spell 25 = .ok (.imul, 1) := by decide +kernel
theorem dX10_spell_26 : decode cX10_spell 26 = .ok (.isub, 1) := by decide +kernel
theorem dX10_spell_27 : decode cX10_spell 27 = .ok (.lshr, 1) := by decide +kernel
theorem dX10_spell_28 : decode cX10_spell 28 = .ok (.ldc2_w 144, 3) := by decide +kernel
theorem dX10_spell_31 : decode cX10_spell 31 = .ok (.land, 1) := by decide +kernel
theorem dX10_spell_32 : decode cX10_spell 32 = .ok (.l2i, 1) := by decide +kernel
theorem dX10_spell_33 : decode cX10_spell 33 = .ok (.iastore, 1) := by decide +kernel
theorem dX10_spell_34 : decode cX10_spell 34 = .ok (.iinc 4 1, 3) := by decide +kernel
theorem dX10_spell_37 : decode cX10_spell 37 = .ok (.goto (-34), 3) := by decide +kernel
theorem dX10_spell_40 : decode cX10_spell 40 = .ok (.return_, 1) := by decide +kernel
theorem dX10_isWine_0 : decode cX10_isWine 0 = .ok (.iload_n 1, 1) := by decide +kernel
theorem dX10_isWine_1 : decode cX10_isWine 1 = .ok (.i2l, 1) := by decide +kernel
theorem dX10_isWine_2 : decode cX10_isWine 2 = .ok (.lconst 0, 1) := by decide +kernel
theorem dX10_isWine_3 : decode cX10_isWine 3 = .ok (.aload_n 0, 1) := by decide +kernel
theorem dX10_isWine_4 : decode cX10_isWine 4 = .ok (.getfield 146, 3) := by decide +kernel
theorem dX10_isWine_7 : decode cX10_isWine 7 = .ok (.iconst 1, 1) := by decide +kernel
theorem dX10_isWine_8 : decode cX10_isWine 8 = .ok (.isub, 1) := by decide +kernel
theorem dX10_isWine_9 : decode cX10_isWine 9 = .ok (.i2l, 1) := by decide +kernel
theorem dX10_isWine_10 : decode cX10_isWine 10 = .ok (.invokestatic 149, 3) := by decide +kernel
theorem dX10_isWine_13 : decode cX10_isWine 13 = .ok (.ireturn, 1) := by decide +kernel
theorem dX10_partOf_0 : decode cX10_partOf 0 = .ok (.iload_n 1, 1) := by decide +kernel
theorem dX10_partOf_1 : decode cX10_partOf 1 = .ok (.ifCond .ne 10, 3) := by decide +kernel
theorem dX10_partOf_4 : decode cX10_partOf 4 = .ok (.iload_n 0, 1) := by decide +kernel
theorem dX10_partOf_5 : decode cX10_partOf 5 = .ok (.bipush 100, 2) := by decide +kernel
theorem dX10_partOf_7 : decode cX10_partOf 7 = .ok (.idiv, 1) := by decide +kernel
theorem dX10_partOf_8 : decode cX10_partOf 8 = .ok (.goto 22, 3) := by decide +kernel
theorem dX10_partOf_11 : decode cX10_partOf 11 = .ok (.iload_n 1, 1) := by decide +kernel
theorem dX10_partOf_12 : decode cX10_partOf 12 = .ok (.iconst 1, 1) := by decide +kernel
theorem dX10_partOf_13 : decode cX10_partOf 13 = .ok (.if_icmp .ne 13, 3) := by decide +kernel
theorem dX10_partOf_16 : decode cX10_partOf 16 = .ok (.iload_n 0, 1) := by decide +kernel
theorem dX10_partOf_17 : decode cX10_partOf 17 = .ok (.bipush 10, 2) := by decide +kernel
theorem dX10_partOf_19 : decode cX10_partOf 19 = .ok (.idiv, 1) := by decide +kernel
theorem dX10_partOf_20 : decode cX10_partOf 20 = .ok (.bipush 10, 2) := by decide +kernel
theorem dX10_partOf_22 : decode cX10_partOf 22 = .ok (.irem, 1) := by decide +kernel
theorem dX10_partOf_23 : decode cX10_partOf 23 = .ok (.goto 7, 3) := by decide +kernel
theorem dX10_partOf_26 : decode cX10_partOf 26 = .ok (.iload_n 0, 1) := by decide +kernel
theorem dX10_partOf_27 : decode cX10_partOf 27 = .ok (.bipush 10, 2) := by decide +kernel
theorem dX10_partOf_29 : decode cX10_partOf 29 = .ok (.irem, 1) := by decide +kernel
theorem dX10_partOf_30 : decode cX10_partOf 30 = .ok (.ireturn, 1) := by decide +kernel
theorem dX10_areParts_0 : decode cX10_areParts 0 = .ok (.iload_n 0, 1) := by decide +kernel
theorem dX10_areParts_1 : decode cX10_areParts 1 = .ok (.i2l, 1) := by decide +kernel
theorem dX10_areParts_2 : decode cX10_areParts 2 = .ok (.lconst 0, 1) := by decide +kernel
theorem dX10_areParts_3 : decode cX10_areParts 3 = .ok (.ldc2_w 153, 3) := by decide +kernel
theorem dX10_areParts_6 : decode cX10_areParts 6 = .ok (.invokestatic 149, 3) := by decide +kernel
theorem dX10_areParts_9 : decode cX10_areParts 9 = .ok (.ifCond .eq 26, 3) := by decide +kernel
theorem dX10_areParts_12 : decode cX10_areParts 12 = .ok (.iload_n 0, 1) := by decide +kernel
theorem dX10_areParts_13 : decode cX10_areParts 13 = .ok (.bipush 10, 2) := by decide +kernel
theorem dX10_areParts_15 : decode cX10_areParts 15 = .ok (.idiv, 1) := by decide +kernel
theorem dX10_areParts_16 : decode cX10_areParts 16 = .ok (.bipush 10, 2) := by decide +kernel
theorem dX10_areParts_18 : decode cX10_areParts 18 = .ok (.irem, 1) := by decide +kernel
theorem dX10_areParts_19 : decode cX10_areParts 19 = .ok (.iconst 4, 1) := by decide +kernel
theorem dX10_areParts_20 : decode cX10_areParts 20 = .ok (.if_icmp .ge 15, 3) := by decide +kernel
theorem dX10_areParts_23 : decode cX10_areParts 23 = .ok (.iload_n 0, 1) := by decide +kernel
theorem dX10_areParts_24 : decode cX10_areParts 24 = .ok (.bipush 10, 2) := by decide +kernel
theorem dX10_areParts_26 : decode cX10_areParts 26 = .ok (.irem, 1) := by decide +kernel
theorem dX10_areParts_27 : decode cX10_areParts 27 = .ok (.iconst 4, 1) := by decide +kernel
theorem dX10_areParts_28 : decode cX10_areParts 28 = .ok (.if_icmp .ge 7, 3) := by decide +kernel
theorem dX10_areParts_31 : decode cX10_areParts 31 = .ok (.iconst 1, 1) := by decide +kernel
theorem dX10_areParts_32 : decode cX10_areParts 32 = .ok (.goto 4, 3) := by decide +kernel
theorem dX10_areParts_35 : decode cX10_areParts 35 = .ok (.iconst 0, 1) := by decide +kernel
theorem dX10_areParts_36 : decode cX10_areParts 36 = .ok (.ireturn, 1) := by decide +kernel
theorem dX10_wine_0 : decode cX10_wine 0 = .ok (.iload_n 1, 1) := by decide +kernel
theorem dX10_wine_1 : decode cX10_wine 1 = .ok (.i2l, 1) := by decide +kernel
theorem dX10_wine_2 : decode cX10_wine 2 = .ok (.lconst 0, 1) := by decide +kernel
theorem dX10_wine_3 : decode cX10_wine 3 = .ok (.ldc2_w 155, 3) := by decide +kernel
theorem dX10_wine_6 : decode cX10_wine 6 = .ok (.invokestatic 149, 3) := by decide +kernel
theorem dX10_wine_9 : decode cX10_wine 9 = .ok (.ifCond .eq 35, 3) := by decide +kernel
theorem dX10_wine_12 : decode cX10_wine 12 = .ok (.iload_n 2, 1) := by decide +kernel
theorem dX10_wine_13 : decode cX10_wine 13 = .ok (.i2l, 1) := by decide +kernel
theorem dX10_wine_14 : decode cX10_wine 14 = .ok (.lconst 0, 1) := by decide +kernel
theorem dX10_wine_15 : decode cX10_wine 15 = .ok (.ldc2_w 157, 3) := by decide +kernel
theorem dX10_wine_18 : decode cX10_wine 18 = .ok (.invokestatic 149, 3) := by decide +kernel
theorem dX10_wine_21 : decode cX10_wine 21 = .ok (.ifCond .eq 23, 3) := by decide +kernel
theorem dX10_wine_24 : decode cX10_wine 24 = .ok (.iload_n 3, 1) := by decide +kernel
theorem dX10_wine_25 : decode cX10_wine 25 = .ok (.invokestatic 159, 3) := by decide +kernel
theorem dX10_wine_28 : decode cX10_wine 28 = .ok (.ifCond .eq 16, 3) := by decide +kernel
theorem dX10_wine_31 : decode cX10_wine 31 = .ok (.iload 4, 2) := by decide +kernel
theorem dX10_wine_33 : decode cX10_wine 33 = .ok (.i2l, 1) := by decide +kernel
theorem dX10_wine_34 : decode cX10_wine 34 = .ok (.lconst 0, 1) := by decide +kernel
theorem dX10_wine_35 : decode cX10_wine 35 = .ok (.ldc2_w 163, 3) := by decide +kernel
theorem dX10_wine_38 : decode cX10_wine 38 = .ok (.invokestatic 149, 3) := by decide +kernel
theorem dX10_wine_41 : decode cX10_wine 41 = .ok (.ifCond .ne 6, 3) := by decide +kernel
theorem dX10_wine_44 : decode cX10_wine 44 = .ok (.bipush (-2), 2) := by decide +kernel
theorem dX10_wine_46 : decode cX10_wine 46 = .ok (.ireturn, 1) := by decide +kernel
theorem dX10_wine_47 : decode cX10_wine 47 = .ok (.aload_n 0, 1) := by decide +kernel
theorem dX10_wine_48 : decode cX10_wine 48 = .ok (.getfield 146, 3) := by decide +kernel
theorem dX10_wine_51 : decode cX10_wine 51 = .ok (.bipush 8, 2) := by decide +kernel
theorem dX10_wine_53 : decode cX10_wine 53 = .ok (.if_icmp .ne 6, 3) := by decide +kernel
theorem dX10_wine_56 : decode cX10_wine 56 = .ok (.bipush (-4), 2) := by decide +kernel
theorem dX10_wine_58 : decode cX10_wine 58 = .ok (.ireturn, 1) := by decide +kernel
theorem dX10_wine_59 : decode cX10_wine 59 = .ok (.aload_n 0, 1) := by decide +kernel
theorem dX10_wine_60 : decode cX10_wine 60 = .ok (.getfield 23, 3) := by decide +kernel
theorem dX10_wine_63 : decode cX10_wine 63 = .ok (.aload_n 0, 1) := by decide +kernel
theorem dX10_wine_64 : decode cX10_wine 64 = .ok (.getfield 146, 3) := by decide +kernel
theorem dX10_wine_67 : decode cX10_wine 67 = .ok (.iload_n 1, 1) := by decide +kernel
theorem dX10_wine_68 : decode cX10_wine 68 = .ok (.iastore, 1) := by decide +kernel
theorem dX10_wine_69 : decode cX10_wine 69 = .ok (.aload_n 0, 1) := by decide +kernel
theorem dX10_wine_70 : decode cX10_wine 70 = .ok (.getfield 26, 3) := by decide +kernel
theorem dX10_wine_73 : decode cX10_wine 73 = .ok (.aload_n 0, 1) := by decide +kernel
theorem dX10_wine_74 : decode cX10_wine 74 = .ok (.getfield 146, 3) := by decide +kernel
theorem dX10_wine_77 : decode cX10_wine 77 = .ok (.iload_n 2, 1) := by decide +kernel
theorem dX10_wine_78 : decode cX10_wine 78 = .ok (.iastore, 1) := by decide +kernel
theorem dX10_wine_79 : decode cX10_wine 79 = .ok (.aload_n 0, 1) := by decide +kernel
theorem dX10_wine_80 : decode cX10_wine 80 = .ok (.getfield 29, 3) := by decide +kernel
theorem dX10_wine_83 : decode cX10_wine 83 = .ok (.aload_n 0, 1) := by decide +kernel
theorem dX10_wine_84 : decode cX10_wine 84 = .ok (.getfield 146, 3) := by decide +kernel
theorem dX10_wine_87 : decode cX10_wine 87 = .ok (.iconst 0, 1) := by decide +kernel
theorem dX10_wine_88 : decode cX10_wine 88 = .ok (.iastore, 1) := by decide +kernel
theorem dX10_wine_89 : decode cX10_wine 89 = .ok (.aload_n 0, 1) := by decide +kernel
theorem dX10_wine_90 : decode cX10_wine 90 = .ok (.getfield 32, 3) := by decide +kernel
theorem dX10_wine_93 : decode cX10_wine 93 = .ok (.aload_n 0, 1) := by decide +kernel
theorem dX10_wine_94 : decode cX10_wine 94 = .ok (.getfield 146, 3) := by decide +kernel
theorem dX10_wine_97 : decode cX10_wine 97 = .ok (.iload_n 3, 1) := by decide +kernel
theorem dX10_wine_98 : decode cX10_wine 98 = .ok (.iastore, 1) := by decide +kernel
theorem dX10_wine_99 : decode cX10_wine 99 = .ok (.aload_n 0, 1) := by decide +kernel
theorem dX10_wine_100 : decode cX10_wine 100 = .ok (.getfield 35, 3) := by decide +kernel
theorem dX10_wine_103 : decode cX10_wine 103 = .ok (.aload_n 0, 1) := by decide +kernel
theorem dX10_wine_104 : decode cX10_wine 104 = .ok (.getfield 146, 3) := by decide +kernel
theorem dX10_wine_107 : decode cX10_wine 107 = .ok (.iload 4, 2) := by decide +kernel
theorem dX10_wine_109 : decode cX10_wine 109 = .ok (.iastore, 1) := by decide +kernel
theorem dX10_wine_110 : decode cX10_wine 110 = .ok (.aload_n 0, 1) := by decide +kernel
theorem dX10_wine_111 : decode cX10_wine 111 = .ok (.dup, 1) := by decide +kernel
theorem dX10_wine_112 : decode cX10_wine 112 = .ok (.getfield 146, 3) := by decide +kernel
theorem dX10_wine_115 : decode cX10_wine 115 = .ok (.iconst 1, 1) := by decide +kernel
theorem dX10_wine_116 : decode cX10_wine 116 = .ok (.iadd, 1) := by decide +kernel
theorem dX10_wine_117 : decode cX10_wine 117 = .ok (.putfield 146, 3) := by decide +kernel
theorem dX10_wine_120 : decode cX10_wine 120 = .ok (.aload_n 0, 1) := by decide +kernel
theorem dX10_wine_121 : decode cX10_wine 121 = .ok (.getfield 146, 3) := by decide +kernel
theorem dX10_wine_124 : decode cX10_wine 124 = .ok (.iconst 1, 1) := by decide +kernel
theorem dX10_wine_125 : decode cX10_wine 125 = .ok (.isub, 1) := by decide +kernel
theorem dX10_wine_126 : decode cX10_wine 126 = .ok (.ireturn, 1) := by decide +kernel
theorem dX10_tasteOf_0 : decode cX10_tasteOf 0 = .ok (.iload_n 2, 1) := by decide +kernel
theorem dX10_tasteOf_1 : decode cX10_tasteOf 1 = .ok (.ifCond .ne 16, 3) := by decide +kernel
theorem dX10_tasteOf_4 : decode cX10_tasteOf 4 = .ok (.aload_n 0, 1) := by decide +kernel
theorem dX10_tasteOf_5 : decode cX10_tasteOf 5 = .ok (.getfield 35, 3) := by decide +kernel
theorem dX10_tasteOf_8 : decode cX10_tasteOf 8 = .ok (.iload_n 1, 1) := by decide +kernel
theorem dX10_tasteOf_9 : decode cX10_tasteOf 9 = .ok (.iaload, 1) := by decide +kernel
theorem dX10_tasteOf_10 : decode cX10_tasteOf 10 = .ok (.sipush 10000, 3) := by decide +kernel
theorem dX10_tasteOf_13 : decode cX10_tasteOf 13 = .ok (.idiv, 1) := by decide +kernel
theorem dX10_tasteOf_14 : decode cX10_tasteOf 14 = .ok (.goto 32, 3) := by decide +kernel
theorem dX10_tasteOf_17 : decode cX10_tasteOf 17 = .ok (.iload_n 2, 1) := by decide +kernel
theorem dX10_tasteOf_18 : decode cX10_tasteOf 18 = .ok (.iconst 1, 1) := by decide +kernel
theorem dX10_tasteOf_19 : decode cX10_tasteOf 19 = .ok (.if_icmp .ne 18, 3) := by decide +kernel
theorem dX10_tasteOf_22 : decode cX10_tasteOf 22 = .ok (.aload_n 0, 1) := by decide +kernel
theorem dX10_tasteOf_23 : decode cX10_tasteOf 23 = .ok (.getfield 35, 3) := by decide +kernel
theorem dX10_tasteOf_26 : decode cX10_tasteOf 26 = .ok (.iload_n 1, 1) := by decide +kernel
theorem dX10_tasteOf_27 : decode cX10_tasteOf 27 = .ok (.iaload, 1) := by decide +kernel
theorem dX10_tasteOf_28 : decode cX10_tasteOf 28 = .ok (.bipush 100, 2) := by decide +kernel
theorem dX10_tasteOf_30 : decode cX10_tasteOf 30 = .ok (.idiv, 1) := by decide +kernel
theorem dX10_tasteOf_31 : decode cX10_tasteOf 31 = .ok (.bipush 100, 2) := by decide +kernel
theorem dX10_tasteOf_33 : decode cX10_tasteOf 33 = .ok (.irem, 1) := by decide +kernel
theorem dX10_tasteOf_34 : decode cX10_tasteOf 34 = .ok (.goto 12, 3) := by decide +kernel
theorem dX10_tasteOf_37 : decode cX10_tasteOf 37 = .ok (.aload_n 0, 1) := by decide +kernel
theorem dX10_tasteOf_38 : decode cX10_tasteOf 38 = .ok (.getfield 35, 3) := by decide +kernel
theorem dX10_tasteOf_41 : decode cX10_tasteOf 41 = .ok (.iload_n 1, 1) := by decide +kernel
theorem dX10_tasteOf_42 : decode cX10_tasteOf 42 = .ok (.iaload, 1) := by decide +kernel
theorem dX10_tasteOf_43 : decode cX10_tasteOf 43 = .ok (.bipush 100, 2) := by decide +kernel
theorem dX10_tasteOf_45 : decode cX10_tasteOf 45 = .ok (.irem, 1) := by decide +kernel
theorem dX10_tasteOf_46 : decode cX10_tasteOf 46 = .ok (.ireturn, 1) := by decide +kernel
theorem dX10_drunk_0 : decode cX10_drunk 0 = .ok (.aload_n 0, 1) := by decide +kernel
theorem dX10_drunk_1 : decode cX10_drunk 1 = .ok (.iload_n 1, 1) := by decide +kernel
theorem dX10_drunk_2 : decode cX10_drunk 2 = .ok (.invokevirtual 165, 3) := by decide +kernel
theorem dX10_drunk_5 : decode cX10_drunk 5 = .ok (.ifCond .eq 15, 3) := by decide +kernel
theorem dX10_drunk_8 : decode cX10_drunk 8 = .ok (.iload_n 2, 1) := by decide +kernel
theorem dX10_drunk_9 : decode cX10_drunk 9 = .ok (.i2l, 1) := by decide +kernel
theorem dX10_drunk_10 : decode cX10_drunk 10 = .ok (.lconst 0, 1) := by decide +kernel
theorem dX10_drunk_11 : decode cX10_drunk 11 = .ok (.ldc2_w 157, 3) := by decide +kernel
theorem dX10_drunk_14 : decode cX10_drunk 14 = .ok (.invokestatic 149, 3) := by decide +kernel
theorem dX10_drunk_17 : decode cX10_drunk 17 = .ok (.ifCond .ne 6, 3) := by decide +kernel
theorem dX10_drunk_20 : decode cX10_drunk 20 = .ok (.bipush (-2), 2) := by decide +kernel
theorem dX10_drunk_22 : decode cX10_drunk 22 = .ok (.ireturn, 1) := by decide +kernel
theorem dX10_drunk_23 : decode cX10_drunk 23 = .ok (.aload_n 0, 1) := by decide +kernel
theorem dX10_drunk_24 : decode cX10_drunk 24 = .ok (.getfield 29, 3) := by decide +kernel
theorem dX10_drunk_27 : decode cX10_drunk 27 = .ok (.iload_n 1, 1) := by decide +kernel
theorem dX10_drunk_28 : decode cX10_drunk 28 = .ok (.iaload, 1) := by decide +kernel
theorem dX10_drunk_29 : decode cX10_drunk 29 = .ok (.istore_n 3, 1) := by decide +kernel
theorem dX10_drunk_30 : decode cX10_drunk 30 = .ok (.aload_n 0, 1) := by decide +kernel
theorem dX10_drunk_31 : decode cX10_drunk 31 = .ok (.getfield 29, 3) := by decide +kernel
theorem dX10_drunk_34 : decode cX10_drunk 34 = .ok (.iload_n 1, 1) := by decide +kernel
theorem dX10_drunk_35 : decode cX10_drunk 35 = .ok (.iload_n 2, 1) := by decide +kernel
theorem dX10_drunk_36 : decode cX10_drunk 36 = .ok (.iastore, 1) := by decide +kernel
theorem dX10_drunk_37 : decode cX10_drunk 37 = .ok (.iload_n 3, 1) := by decide +kernel
theorem dX10_drunk_38 : decode cX10_drunk 38 = .ok (.ireturn, 1) := by decide +kernel
theorem dX10_book_0 : decode cX10_book 0 = .ok (.iload_n 1, 1) := by decide +kernel
theorem dX10_book_1 : decode cX10_book 1 = .ok (.i2l, 1) := by decide +kernel
theorem dX10_book_2 : decode cX10_book 2 = .ok (.lconst 0, 1) := by decide +kernel
theorem dX10_book_3 : decode cX10_book 3 = .ok (.ldc2_w 168, 3) := by decide +kernel
theorem dX10_book_6 : decode cX10_book 6 = .ok (.invokestatic 149, 3) := by decide +kernel
theorem dX10_book_9 : decode cX10_book 9 = .ok (.ifCond .eq 41, 3) := by decide +kernel
theorem dX10_book_12 : decode cX10_book 12 = .ok (.iload_n 2, 1) := by decide +kernel
theorem dX10_book_13 : decode cX10_book 13 = .ok (.i2l, 1) := by decide +kernel
theorem dX10_book_14 : decode cX10_book 14 = .ok (.lconst 0, 1) := by decide +kernel
theorem dX10_book_15 : decode cX10_book 15 = .ok (.ldc2_w 170, 3) := by decide +kernel
theorem dX10_book_18 : decode cX10_book 18 = .ok (.invokestatic 149, 3) := by decide +kernel
theorem dX10_book_21 : decode cX10_book 21 = .ok (.ifCond .eq 29, 3) := by decide +kernel
theorem dX10_book_24 : decode cX10_book 24 = .ok (.iload_n 3, 1) := by decide +kernel
theorem dX10_book_25 : decode cX10_book 25 = .ok (.i2l, 1) := by decide +kernel
theorem dX10_book_26 : decode cX10_book 26 = .ok (.lconst 0, 1) := by decide +kernel
theorem dX10_book_27 : decode cX10_book 27 = .ok (.ldc2_w 155, 3) := by decide +kernel
theorem dX10_book_30 : decode cX10_book 30 = .ok (.invokestatic 149, 3) := by decide +kernel
theorem dX10_book_33 : decode cX10_book 33 = .ok (.ifCond .eq 17, 3) := by decide +kernel
theorem dX10_book_36 : decode cX10_book 36 = .ok (.iload 4, 2) := by decide +kernel
theorem dX10_book_38 : decode cX10_book 38 = .ok (.i2l, 1) := by decide +kernel
theorem dX10_book_39 : decode cX10_book 39 = .ok (.iload_n 3, 1) := by decide +kernel
theorem dX10_book_40 : decode cX10_book 40 = .ok (.i2l, 1) := by decide +kernel
theorem dX10_book_41 : decode cX10_book 41 = .ok (.ldc2_w 155, 3) := by decide +kernel
theorem dX10_book_44 : decode cX10_book 44 = .ok (.invokestatic 149, 3) := by decide +kernel
theorem dX10_book_47 : decode cX10_book 47 = .ok (.ifCond .ne 6, 3) := by decide +kernel
theorem dX10_book_50 : decode cX10_book 50 = .ok (.bipush (-2), 2) := by decide +kernel
theorem dX10_book_52 : decode cX10_book 52 = .ok (.ireturn, 1) := by decide +kernel
theorem dX10_book_53 : decode cX10_book 53 = .ok (.aload_n 0, 1) := by decide +kernel
theorem dX10_book_54 : decode cX10_book 54 = .ok (.getfield 38, 3) := by decide +kernel
theorem dX10_book_57 : decode cX10_book 57 = .ok (.iconst 4, 1) := by decide +kernel
theorem dX10_book_58 : decode cX10_book 58 = .ok (.iload_n 1, 1) := by decide +kernel
theorem dX10_book_59 : decode cX10_book 59 = .ok (.imul, 1) := by decide +kernel
theorem dX10_book_60 : decode cX10_book 60 = .ok (.iload_n 2, 1) := by decide +kernel
theorem dX10_book_61 : decode cX10_book 61 = .ok (.iadd, 1) := by decide +kernel
theorem dX10_book_62 : decode cX10_book 62 = .ok (.iload_n 3, 1) := by decide +kernel
theorem dX10_book_63 : decode cX10_book 63 = .ok (.iastore, 1) := by decide +kernel
theorem dX10_book_64 : decode cX10_book 64 = .ok (.aload_n 0, 1) := by decide +kernel
theorem dX10_book_65 : decode cX10_book 65 = .ok (.getfield 41, 3) := by decide +kernel
theorem dX10_book_68 : decode cX10_book 68 = .ok (.iconst 4, 1) := by decide +kernel
theorem dX10_book_69 : decode cX10_book 69 = .ok (.iload_n 1, 1) := by decide +kernel
theorem dX10_book_70 : decode cX10_book 70 = .ok (.imul, 1) := by decide +kernel
theorem dX10_book_71 : decode cX10_book 71 = .ok (.iload_n 2, 1) := by decide +kernel
theorem dX10_book_72 : decode cX10_book 72 = .ok (.iadd, 1) := by decide +kernel
theorem dX10_book_73 : decode cX10_book 73 = .ok (.iload 4, 2) := by decide +kernel
theorem dX10_book_75 : decode cX10_book 75 = .ok (.iastore, 1) := by decide +kernel
theorem dX10_book_76 : decode cX10_book 76 = .ok (.iconst 1, 1) := by decide +kernel
theorem dX10_book_77 : decode cX10_book 77 = .ok (.ireturn, 1) := by decide +kernel
theorem dX10_test_0 : decode cX10_test 0 = .ok (.iload_n 1, 1) := by decide +kernel
theorem dX10_test_1 : decode cX10_test 1 = .ok (.i2l, 1) := by decide +kernel
theorem dX10_test_2 : decode cX10_test 2 = .ok (.lconst 0, 1) := by decide +kernel
theorem dX10_test_3 : decode cX10_test 3 = .ok (.ldc2_w 168, 3) := by decide +kernel
theorem dX10_test_6 : decode cX10_test 6 = .ok (.invokestatic 149, 3) := by decide +kernel
theorem dX10_test_9 : decode cX10_test 9 = .ok (.ifCond .eq 15, 3) := by decide +kernel
theorem dX10_test_12 : decode cX10_test 12 = .ok (.iload_n 2, 1) := by decide +kernel
theorem dX10_test_13 : decode cX10_test 13 = .ok (.i2l, 1) := by decide +kernel
theorem dX10_test_14 : decode cX10_test 14 = .ok (.lconst 0, 1) := by decide +kernel
theorem dX10_test_15 : decode cX10_test 15 = .ok (.ldc2_w 172, 3) := by decide +kernel
theorem dX10_test_18 : decode cX10_test 18 = .ok (.invokestatic 149, 3) := by decide +kernel
theorem dX10_test_21 : decode cX10_test 21 = .ok (.ifCond .ne 6, 3) := by decide +kernel
theorem dX10_test_24 : decode cX10_test 24 = .ok (.bipush (-2), 2) := by decide +kernel
theorem dX10_test_26 : decode cX10_test 26 = .ok (.ireturn, 1) := by decide +kernel
theorem dX10_test_27 : decode cX10_test 27 = .ok (.aload_n 0, 1) := by decide +kernel
theorem dX10_test_28 : decode cX10_test 28 = .ok (.getfield 44, 3) := by decide +kernel
theorem dX10_test_31 : decode cX10_test 31 = .ok (.iload_n 1, 1) := by decide +kernel
theorem dX10_test_32 : decode cX10_test 32 = .ok (.iaload, 1) := by decide +kernel
theorem dX10_test_33 : decode cX10_test 33 = .ok (.istore_n 3, 1) := by decide +kernel
theorem dX10_test_34 : decode cX10_test 34 = .ok (.aload_n 0, 1) := by decide +kernel
theorem dX10_test_35 : decode cX10_test 35 = .ok (.getfield 44, 3) := by decide +kernel
theorem dX10_test_38 : decode cX10_test 38 = .ok (.iload_n 1, 1) := by decide +kernel
theorem dX10_test_39 : decode cX10_test 39 = .ok (.iload_n 2, 1) := by decide +kernel
theorem dX10_test_40 : decode cX10_test 40 = .ok (.iastore, 1) := by decide +kernel
theorem dX10_test_41 : decode cX10_test 41 = .ok (.iload_n 3, 1) := by decide +kernel
theorem dX10_test_42 : decode cX10_test 42 = .ok (.ireturn, 1) := by decide +kernel
theorem dX10_isBottle_0 : decode cX10_isBottle 0 = .ok (.iload_n 1, 1) := by decide +kernel
theorem dX10_isBottle_1 : decode cX10_isBottle 1 = .ok (.i2l, 1) := by decide +kernel
theorem dX10_isBottle_2 : decode cX10_isBottle 2 = .ok (.lconst 0, 1) := by decide +kernel
theorem dX10_isBottle_3 : decode cX10_isBottle 3 = .ok (.aload_n 0, 1) := by decide +kernel
theorem dX10_isBottle_4 : decode cX10_isBottle 4 = .ok (.getfield 174, 3) := by decide +kernel
theorem dX10_isBottle_7 : decode cX10_isBottle 7 = .ok (.iconst 1, 1) := by decide +kernel
theorem dX10_isBottle_8 : decode cX10_isBottle 8 = .ok (.isub, 1) := by decide +kernel
theorem dX10_isBottle_9 : decode cX10_isBottle 9 = .ok (.i2l, 1) := by decide +kernel
theorem dX10_isBottle_10 : decode cX10_isBottle 10 = .ok (.invokestatic 149, 3) := by decide +kernel
theorem dX10_isBottle_13 : decode cX10_isBottle 13 = .ok (.ireturn, 1) := by decide +kernel
theorem dX10_bottle_0 : decode cX10_bottle 0 = .ok (.iload_n 1, 1) := by decide +kernel
theorem dX10_bottle_1 : decode cX10_bottle 1 = .ok (.i2l, 1) := by decide +kernel
theorem dX10_bottle_2 : decode cX10_bottle 2 = .ok (.lconst 0, 1) := by decide +kernel
theorem dX10_bottle_3 : decode cX10_bottle 3 = .ok (.ldc2_w 177, 3) := by decide +kernel
theorem dX10_bottle_6 : decode cX10_bottle 6 = .ok (.invokestatic 149, 3) := by decide +kernel
theorem dX10_bottle_9 : decode cX10_bottle 9 = .ok (.ifCond .eq 36, 3) := by decide +kernel
theorem dX10_bottle_12 : decode cX10_bottle 12 = .ok (.iload_n 2, 1) := by decide +kernel
theorem dX10_bottle_13 : decode cX10_bottle 13 = .ok (.ifCond .lt 32, 3) := by decide +kernel
theorem dX10_bottle_16 : decode cX10_bottle 16 = .ok (.aload_n 0, 1) := by decide +kernel
theorem dX10_bottle_17 : decode cX10_bottle 17 = .ok (.iload_n 2, 1) := by decide +kernel
theorem dX10_bottle_18 : decode cX10_bottle 18 = .ok (.bipush 10, 2) := by decide +kernel
theorem dX10_bottle_20 : decode cX10_bottle 20 = .ok (.idiv, 1) := by decide +kernel
theorem dX10_bottle_21 : decode cX10_bottle 21 = .ok (.invokevirtual 165, 3) := by decide +kernel
theorem dX10_bottle_24 : decode cX10_bottle 24 = .ok (.ifCond .eq 21, 3) := by decide +kernel
theorem dX10_bottle_27 : decode cX10_bottle 27 = .ok (.aload_n 0, 1) := by decide +kernel
theorem dX10_bottle_28 : decode cX10_bottle 28 = .ok (.iload_n 2, 1) := by decide +kernel
theorem dX10_bottle_29 : decode cX10_bottle 29 = .ok (.bipush 10, 2) := by decide +kernel
theorem dX10_bottle_31 : decode cX10_bottle 31 = .ok (.irem, 1) := by decide +kernel
theorem dX10_bottle_32 : decode cX10_bottle 32 = .ok (.invokevirtual 165, 3) := by decide +kernel
theorem dX10_bottle_35 : decode cX10_bottle 35 = .ok (.ifCond .eq 10, 3) := by decide +kernel
theorem dX10_bottle_38 : decode cX10_bottle 38 = .ok (.iload_n 3, 1) := by decide +kernel
theorem dX10_bottle_39 : decode cX10_bottle 39 = .ok (.invokestatic 159, 3) := by decide +kernel
theorem dX10_bottle_42 : decode cX10_bottle 42 = .ok (.ifCond .ne 6, 3) := by decide +kernel
theorem dX10_bottle_45 : decode cX10_bottle 45 = .ok (.bipush (-2), 2) := by decide +kernel
theorem dX10_bottle_47 : decode cX10_bottle 47 = .ok (.ireturn, 1) := by decide +kernel
theorem dX10_bottle_48 : decode cX10_bottle 48 = .ok (.aload_n 0, 1) := by decide +kernel
theorem dX10_bottle_49 : decode cX10_bottle 49 = .ok (.getfield 174, 3) := by decide +kernel
theorem dX10_bottle_52 : decode cX10_bottle 52 = .ok (.bipush 24, 2) := by decide +kernel
theorem dX10_bottle_54 : decode cX10_bottle 54 = .ok (.if_icmp .ne 6, 3) := by decide +kernel
theorem dX10_bottle_57 : decode cX10_bottle 57 = .ok (.bipush (-4), 2) := by decide +kernel
theorem dX10_bottle_59 : decode cX10_bottle 59 = .ok (.ireturn, 1) := by decide +kernel
theorem dX10_bottle_60 : decode cX10_bottle 60 = .ok (.aload_n 0, 1) := by decide +kernel
theorem dX10_bottle_61 : decode cX10_bottle 61 = .ok (.getfield 47, 3) := by decide +kernel
theorem dX10_bottle_64 : decode cX10_bottle 64 = .ok (.aload_n 0, 1) := by decide +kernel
theorem dX10_bottle_65 : decode cX10_bottle 65 = .ok (.getfield 174, 3) := by decide +kernel
theorem dX10_bottle_68 : decode cX10_bottle 68 = .ok (.iload_n 1, 1) := by decide +kernel
theorem dX10_bottle_69 : decode cX10_bottle 69 = .ok (.iastore, 1) := by decide +kernel
theorem dX10_bottle_70 : decode cX10_bottle 70 = .ok (.aload_n 0, 1) := by decide +kernel
theorem dX10_bottle_71 : decode cX10_bottle 71 = .ok (.getfield 50, 3) := by decide +kernel
theorem dX10_bottle_74 : decode cX10_bottle 74 = .ok (.aload_n 0, 1) := by decide +kernel
theorem dX10_bottle_75 : decode cX10_bottle 75 = .ok (.getfield 174, 3) := by decide +kernel
theorem dX10_bottle_78 : decode cX10_bottle 78 = .ok (.iload_n 2, 1) := by decide +kernel
theorem dX10_bottle_79 : decode cX10_bottle 79 = .ok (.bipush 10, 2) := by decide +kernel
theorem dX10_bottle_81 : decode cX10_bottle 81 = .ok (.idiv, 1) := by decide +kernel
theorem dX10_bottle_82 : decode cX10_bottle 82 = .ok (.iastore, 1) := by decide +kernel
theorem dX10_bottle_83 : decode cX10_bottle 83 = .ok (.aload_n 0, 1) := by decide +kernel
theorem dX10_bottle_84 : decode cX10_bottle 84 = .ok (.getfield 53, 3) := by decide +kernel
theorem dX10_bottle_87 : decode cX10_bottle 87 = .ok (.aload_n 0, 1) := by decide +kernel
theorem dX10_bottle_88 : decode cX10_bottle 88 = .ok (.getfield 174, 3) := by decide +kernel
theorem dX10_bottle_91 : decode cX10_bottle 91 = .ok (.iload_n 2, 1) := by decide +kernel
theorem dX10_bottle_92 : decode cX10_bottle 92 = .ok (.bipush 10, 2) := by decide +kernel
theorem dX10_bottle_94 : decode cX10_bottle 94 = .ok (.irem, 1) := by decide +kernel
theorem dX10_bottle_95 : decode cX10_bottle 95 = .ok (.iastore, 1) := by decide +kernel
theorem dX10_bottle_96 : decode cX10_bottle 96 = .ok (.aload_n 0, 1) := by decide +kernel
theorem dX10_bottle_97 : decode cX10_bottle 97 = .ok (.getfield 56, 3) := by decide +kernel
theorem dX10_bottle_100 : decode cX10_bottle 100 = .ok (.aload_n 0, 1) := by decide +kernel
theorem dX10_bottle_101 : decode cX10_bottle 101 = .ok (.getfield 174, 3) := by decide +kernel
theorem dX10_bottle_104 : decode cX10_bottle 104 = .ok (.iload_n 3, 1) := by decide +kernel
theorem dX10_bottle_105 : decode cX10_bottle 105 = .ok (.iastore, 1) := by decide +kernel
theorem dX10_bottle_106 : decode cX10_bottle 106 = .ok (.aload_n 0, 1) := by decide +kernel
theorem dX10_bottle_107 : decode cX10_bottle 107 = .ok (.dup, 1) := by decide +kernel
theorem dX10_bottle_108 : decode cX10_bottle 108 = .ok (.getfield 174, 3) := by decide +kernel
theorem dX10_bottle_111 : decode cX10_bottle 111 = .ok (.iconst 1, 1) := by decide +kernel
theorem dX10_bottle_112 : decode cX10_bottle 112 = .ok (.iadd, 1) := by decide +kernel
theorem dX10_bottle_113 : decode cX10_bottle 113 = .ok (.putfield 174, 3) := by decide +kernel
theorem dX10_bottle_116 : decode cX10_bottle 116 = .ok (.aload_n 0, 1) := by decide +kernel
theorem dX10_bottle_117 : decode cX10_bottle 117 = .ok (.getfield 174, 3) := by decide +kernel
theorem dX10_bottle_120 : decode cX10_bottle 120 = .ok (.iconst 1, 1) := by decide +kernel
theorem dX10_bottle_121 : decode cX10_bottle 121 = .ok (.isub, 1) := by decide +kernel
theorem dX10_bottle_122 : decode cX10_bottle 122 = .ok (.ireturn, 1) := by decide +kernel
theorem dX10_showsOf_0 : decode cX10_showsOf 0 = .ok (.aload_n 0, 1) := by decide +kernel
theorem dX10_showsOf_1 : decode cX10_showsOf 1 = .ok (.getfield 56, 3) := by decide +kernel
theorem dX10_showsOf_4 : decode cX10_showsOf 4 = .ok (.iload_n 1, 1) := by decide +kernel
theorem dX10_showsOf_5 : decode cX10_showsOf 5 = .ok (.iaload, 1) := by decide +kernel
theorem dX10_showsOf_6 : decode cX10_showsOf 6 = .ok (.iload_n 2, 1) := by decide +kernel
theorem dX10_showsOf_7 : decode cX10_showsOf 7 = .ok (.invokestatic 179, 3) := by decide +kernel
theorem dX10_showsOf_10 : decode cX10_showsOf 10 = .ok (.istore_n 3, 1) := by decide +kernel
theorem dX10_showsOf_11 : decode cX10_showsOf 11 = .ok (.aload_n 0, 1) := by decide +kernel
theorem dX10_showsOf_12 : decode cX10_showsOf 12 = .ok (.getfield 32, 3) := by decide +kernel
theorem dX10_showsOf_15 : decode cX10_showsOf 15 = .ok (.aload_n 0, 1) := by decide +kernel
theorem dX10_showsOf_16 : decode cX10_showsOf 16 = .ok (.getfield 50, 3) := by decide +kernel
theorem dX10_showsOf_19 : decode cX10_showsOf 19 = .ok (.iload_n 1, 1) := by decide +kernel
theorem dX10_showsOf_20 : decode cX10_showsOf 20 = .ok (.iaload, 1) := by decide +kernel
theorem dX10_showsOf_21 : decode cX10_showsOf 21 = .ok (.iaload, 1) := by decide +kernel
theorem dX10_showsOf_22 : decode cX10_showsOf 22 = .ok (.iload_n 2, 1) := by decide +kernel
theorem dX10_showsOf_23 : decode cX10_showsOf 23 = .ok (.invokestatic 179, 3) := by decide +kernel
theorem dX10_showsOf_26 : decode cX10_showsOf 26 = .ok (.istore 4, 2) := by decide +kernel
theorem dX10_showsOf_28 : decode cX10_showsOf 28 = .ok (.aload_n 0, 1) := by decide +kernel
theorem dX10_showsOf_29 : decode cX10_showsOf 29 = .ok (.getfield 47, 3) := by decide +kernel
theorem dX10_showsOf_32 : decode cX10_showsOf 32 = .ok (.iload_n 1, 1) := by decide +kernel
theorem dX10_showsOf_33 : decode cX10_showsOf 33 = .ok (.iaload, 1) := by decide +kernel
theorem dX10_showsOf_34 : decode cX10_showsOf 34 = .ok (.tableswitch 68 1 4 #[30, 45, 33, 56], 30) := by decide +kernel
theorem dX10_showsOf_64 : decode cX10_showsOf 64 = .ok (.iload 4, 2) := by decide +kernel
theorem dX10_showsOf_66 : decode cX10_showsOf 66 = .ok (.ireturn, 1) := by decide +kernel
theorem dX10_showsOf_67 : decode cX10_showsOf 67 = .ok (.iload_n 2, 1) := by decide +kernel
theorem dX10_showsOf_68 : decode cX10_showsOf 68 = .ok (.iconst 2, 1) := by decide +kernel
theorem dX10_showsOf_69 : decode cX10_showsOf 69 = .ok (.if_icmp .ne 7, 3) := by decide +kernel
theorem dX10_showsOf_72 : decode cX10_showsOf 72 = .ok (.iload_n 3, 1) := by decide +kernel
theorem dX10_showsOf_73 : decode cX10_showsOf 73 = .ok (.goto 5, 3) := by decide +kernel
theorem dX10_showsOf_76 : decode cX10_showsOf 76 = .ok (.iload 4, 2) := by decide +kernel
theorem dX10_showsOf_78 : decode cX10_showsOf 78 = .ok (.ireturn, 1) := by decide +kernel
theorem dX10_showsOf_79 : decode cX10_showsOf 79 = .ok (.iload_n 2, 1) := by decide +kernel
theorem dX10_showsOf_80 : decode cX10_showsOf 80 = .ok (.ifCond .ne 8, 3) := by decide +kernel
theorem dX10_showsOf_83 : decode cX10_showsOf 83 = .ok (.iload 4, 2) := by decide +kernel
theorem dX10_showsOf_85 : decode cX10_showsOf 85 = .ok (.goto 4, 3) := by decide +kernel
theorem dX10_showsOf_88 : decode cX10_showsOf 88 = .ok (.iload_n 3, 1) := by decide +kernel
theorem dX10_showsOf_89 : decode cX10_showsOf 89 = .ok (.ireturn, 1) := by decide +kernel
theorem dX10_showsOf_90 : decode cX10_showsOf 90 = .ok (.iload_n 2, 1) := by decide +kernel
theorem dX10_showsOf_91 : decode cX10_showsOf 91 = .ok (.iconst 2, 1) := by decide +kernel
theorem dX10_showsOf_92 : decode cX10_showsOf 92 = .ok (.if_icmp .ne 7, 3) := by decide +kernel
theorem dX10_showsOf_95 : decode cX10_showsOf 95 = .ok (.iload_n 3, 1) := by decide +kernel
theorem dX10_showsOf_96 : decode cX10_showsOf 96 = .ok (.goto 5, 3) := by decide +kernel
theorem dX10_showsOf_99 : decode cX10_showsOf 99 = .ok (.iload 4, 2) := by decide +kernel
theorem dX10_showsOf_101 : decode cX10_showsOf 101 = .ok (.ireturn, 1) := by decide +kernel
theorem dX10_showsOf_102 : decode cX10_showsOf 102 = .ok (.iload_n 3, 1) := by decide +kernel
theorem dX10_showsOf_103 : decode cX10_showsOf 103 = .ok (.ireturn, 1) := by decide +kernel
theorem dX10_tastesOf_0 : decode cX10_tastesOf 0 = .ok (.aload_n 0, 1) := by decide +kernel
theorem dX10_tastesOf_1 : decode cX10_tastesOf 1 = .ok (.aload_n 0, 1) := by decide +kernel
theorem dX10_tastesOf_2 : decode cX10_tastesOf 2 = .ok (.getfield 53, 3) := by decide +kernel
theorem dX10_tastesOf_5 : decode cX10_tastesOf 5 = .ok (.iload_n 1, 1) := by decide +kernel
theorem dX10_tastesOf_6 : decode cX10_tastesOf 6 = .ok (.iaload, 1) := by decide +kernel
theorem dX10_tastesOf_7 : decode cX10_tastesOf 7 = .ok (.iload_n 2, 1) := by decide +kernel
theorem dX10_tastesOf_8 : decode cX10_tastesOf 8 = .ok (.invokevirtual 183, 3) := by decide +kernel
theorem dX10_tastesOf_11 : decode cX10_tastesOf 11 = .ok (.istore_n 3, 1) := by decide +kernel
theorem dX10_tastesOf_12 : decode cX10_tastesOf 12 = .ok (.aload_n 0, 1) := by decide +kernel
theorem dX10_tastesOf_13 : decode cX10_tastesOf 13 = .ok (.aload_n 0, 1) := by decide +kernel
theorem dX10_tastesOf_14 : decode cX10_tastesOf 14 = .ok (.getfield 50, 3) := by decide +kernel
theorem dX10_tastesOf_17 : decode cX10_tastesOf 17 = .ok (.iload_n 1, 1) := by decide +kernel
theorem dX10_tastesOf_18 : decode cX10_tastesOf 18 = .ok (.iaload, 1) := by decide +kernel
theorem dX10_tastesOf_19 : decode cX10_tastesOf 19 = .ok (.iload_n 2, 1) := by decide +kernel
theorem dX10_tastesOf_20 : decode cX10_tastesOf 20 = .ok (.invokevirtual 183, 3) := by decide +kernel
theorem dX10_tastesOf_23 : decode cX10_tastesOf 23 = .ok (.istore 4, 2) := by decide +kernel
theorem dX10_tastesOf_25 : decode cX10_tastesOf 25 = .ok (.aload_n 0, 1) := by decide +kernel
theorem dX10_tastesOf_26 : decode cX10_tastesOf 26 = .ok (.getfield 47, 3) := by decide +kernel
theorem dX10_tastesOf_29 : decode cX10_tastesOf 29 = .ok (.iload_n 1, 1) := by decide +kernel
theorem dX10_tastesOf_30 : decode cX10_tastesOf 30 = .ok (.iaload, 1) := by decide +kernel
theorem dX10_tastesOf_31 : decode cX10_tastesOf 31 = .ok (.tableswitch 58 1 5 #[33, 58, 33, 36, 43], 33) := by decide +kernel
theorem dX10_tastesOf_64 : decode cX10_tastesOf 64 = .ok (.iload 4, 2) := by decide +kernel
theorem dX10_tastesOf_66 : decode cX10_tastesOf 66 = .ok (.ireturn, 1) := by decide +kernel
theorem dX10_tastesOf_67 : decode cX10_tastesOf 67 = .ok (.iload_n 3, 1) := by decide +kernel
theorem dX10_tastesOf_68 : decode cX10_tastesOf 68 = .ok (.iload 4, 2) := by decide +kernel
theorem dX10_tastesOf_70 : decode cX10_tastesOf 70 = .ok (.iadd, 1) := by decide +kernel
theorem dX10_tastesOf_71 : decode cX10_tastesOf 71 = .ok (.iconst 2, 1) := by decide +kernel
theorem dX10_tastesOf_72 : decode cX10_tastesOf 72 = .ok (.idiv, 1) := by decide +kernel
theorem dX10_tastesOf_73 : decode cX10_tastesOf 73 = .ok (.ireturn, 1) := by decide +kernel
theorem dX10_tastesOf_74 : decode cX10_tastesOf 74 = .ok (.iload_n 3, 1) := by decide +kernel
theorem dX10_tastesOf_75 : decode cX10_tastesOf 75 = .ok (.bipush 9, 2) := by decide +kernel
theorem dX10_tastesOf_77 : decode cX10_tastesOf 77 = .ok (.if_icmp .ge 7, 3) := by decide +kernel
theorem dX10_tastesOf_80 : decode cX10_tastesOf 80 = .ok (.iconst 0, 1) := by decide +kernel
theorem dX10_tastesOf_81 : decode cX10_tastesOf 81 = .ok (.goto 7, 3) := by decide +kernel
theorem dX10_tastesOf_84 : decode cX10_tastesOf 84 = .ok (.iload_n 3, 1) := by decide +kernel
theorem dX10_tastesOf_85 : decode cX10_tastesOf 85 = .ok (.bipush 9, 2) := by decide +kernel
theorem dX10_tastesOf_87 : decode cX10_tastesOf 87 = .ok (.isub, 1) := by decide +kernel
theorem dX10_tastesOf_88 : decode cX10_tastesOf 88 = .ok (.ireturn, 1) := by decide +kernel
theorem dX10_tastesOf_89 : decode cX10_tastesOf 89 = .ok (.iload_n 3, 1) := by decide +kernel
theorem dX10_tastesOf_90 : decode cX10_tastesOf 90 = .ok (.ireturn, 1) := by decide +kernel
theorem dX10_shows_0 : decode cX10_shows 0 = .ok (.aload_n 0, 1) := by decide +kernel
theorem dX10_shows_1 : decode cX10_shows 1 = .ok (.iload_n 1, 1) := by decide +kernel
theorem dX10_shows_2 : decode cX10_shows 2 = .ok (.invokevirtual 186, 3) := by decide +kernel
theorem dX10_shows_5 : decode cX10_shows 5 = .ok (.ifCond .eq 40, 3) := by decide +kernel
theorem dX10_shows_8 : decode cX10_shows 8 = .ok (.iload_n 2, 1) := by decide +kernel
theorem dX10_shows_9 : decode cX10_shows 9 = .ok (.i2l, 1) := by decide +kernel
theorem dX10_shows_10 : decode cX10_shows 10 = .ok (.lconst 0, 1) := by decide +kernel
theorem dX10_shows_11 : decode cX10_shows 11 = .ok (.ldc2_w 177, 3) := by decide +kernel
theorem dX10_shows_14 : decode cX10_shows 14 = .ok (.invokestatic 149, 3) := by decide +kernel
theorem dX10_shows_17 : decode cX10_shows 17 = .ok (.ifCond .eq 28, 3) := by decide +kernel
theorem dX10_shows_20 : decode cX10_shows 20 = .ok (.iload_n 2, 1) := by decide +kernel
theorem dX10_shows_21 : decode cX10_shows 21 = .ok (.iconst 3, 1) := by decide +kernel
theorem dX10_shows_22 : decode cX10_shows 22 = .ok (.if_icmp .ge 12, 3) := by decide +kernel
theorem dX10_shows_25 : decode cX10_shows 25 = .ok (.aload_n 0, 1) := by decide +kernel
theorem dX10_shows_26 : decode cX10_shows 26 = .ok (.iload_n 1, 1) := by decide +kernel
theorem dX10_shows_27 : decode cX10_shows 27 = .ok (.iload_n 2, 1) := by decide +kernel
theorem dX10_shows_28 : decode cX10_shows 28 = .ok (.invokevirtual 189, 3) := by decide +kernel
theorem dX10_shows_31 : decode cX10_shows 31 = .ok (.goto 16, 3) := by decide +kernel
theorem dX10_shows_34 : decode cX10_shows 34 = .ok (.aload_n 0, 1) := by decide +kernel
theorem dX10_shows_35 : decode cX10_shows 35 = .ok (.iload_n 1, 1) := by decide +kernel
theorem dX10_shows_36 : decode cX10_shows 36 = .ok (.iload_n 2, 1) := by decide +kernel
theorem dX10_shows_37 : decode cX10_shows 37 = .ok (.iconst 3, 1) := by decide +kernel
theorem dX10_shows_38 : decode cX10_shows 38 = .ok (.isub, 1) := by decide +kernel
theorem dX10_shows_39 : decode cX10_shows 39 = .ok (.invokevirtual 192, 3) := by decide +kernel
theorem dX10_shows_42 : decode cX10_shows 42 = .ok (.goto 5, 3) := by decide +kernel
theorem dX10_shows_45 : decode cX10_shows 45 = .ok (.bipush (-2), 2) := by decide +kernel
theorem dX10_shows_47 : decode cX10_shows 47 = .ok (.ireturn, 1) := by decide +kernel
theorem dX10_weightOf_0 : decode cX10_weightOf 0 = .ok (.iload_n 0, 1) := by decide +kernel
theorem dX10_weightOf_1 : decode cX10_weightOf 1 = .ok (.iconst 1, 1) := by decide +kernel
theorem dX10_weightOf_2 : decode cX10_weightOf 2 = .ok (.if_icmp .ne 7, 3) := by decide +kernel
theorem dX10_weightOf_5 : decode cX10_weightOf 5 = .ok (.iconst 5, 1) := by decide +kernel
theorem dX10_weightOf_6 : decode cX10_weightOf 6 = .ok (.goto 27, 3) := by decide +kernel
theorem dX10_weightOf_9 : decode cX10_weightOf 9 = .ok (.iload_n 0, 1) := by decide +kernel
theorem dX10_weightOf_10 : decode cX10_weightOf 10 = .ok (.iconst 3, 1) := by decide +kernel
theorem dX10_weightOf_11 : decode cX10_weightOf 11 = .ok (.if_icmp .ne 7, 3) := by decide +kernel
theorem dX10_weightOf_14 : decode cX10_weightOf 14 = .ok (.iconst 3, 1) := by decide +kernel
theorem dX10_weightOf_15 : decode cX10_weightOf 15 = .ok (.goto 18, 3) := by decide +kernel
theorem dX10_weightOf_18 : decode cX10_weightOf 18 = .ok (.iload_n 0, 1) := by decide +kernel
theorem dX10_weightOf_19 : decode cX10_weightOf 19 = .ok (.iconst 4, 1) := by decide +kernel
theorem dX10_weightOf_20 : decode cX10_weightOf 20 = .ok (.if_icmp .eq 8, 3) := by decide +kernel
theorem dX10_weightOf_23 : decode cX10_weightOf 23 = .ok (.iload_n 0, 1) := by decide +kernel
theorem dX10_weightOf_24 : decode cX10_weightOf 24 = .ok (.iconst 5, 1) := by decide +kernel
theorem dX10_weightOf_25 : decode cX10_weightOf 25 = .ok (.if_icmp .ne 7, 3) := by decide +kernel
theorem dX10_weightOf_28 : decode cX10_weightOf 28 = .ok (.iconst 1, 1) := by decide +kernel
theorem dX10_weightOf_29 : decode cX10_weightOf 29 = .ok (.goto 4, 3) := by decide +kernel
theorem dX10_weightOf_32 : decode cX10_weightOf 32 = .ok (.iconst 2, 1) := by decide +kernel
theorem dX10_weightOf_33 : decode cX10_weightOf 33 = .ok (.ireturn, 1) := by decide +kernel
theorem dX10_bars_0 : decode cX10_bars 0 = .ok (.iconst 4, 1) := by decide +kernel
theorem dX10_bars_1 : decode cX10_bars 1 = .ok (.iload_n 2, 1) := by decide +kernel
theorem dX10_bars_2 : decode cX10_bars 2 = .ok (.imul, 1) := by decide +kernel
theorem dX10_bars_3 : decode cX10_bars 3 = .ok (.aload_n 0, 1) := by decide +kernel
theorem dX10_bars_4 : decode cX10_bars 4 = .ok (.iload_n 1, 1) := by decide +kernel
theorem dX10_bars_5 : decode cX10_bars 5 = .ok (.iload_n 2, 1) := by decide +kernel
theorem dX10_bars_6 : decode cX10_bars 6 = .ok (.invokevirtual 189, 3) := by decide +kernel
theorem dX10_bars_9 : decode cX10_bars 9 = .ok (.iadd, 1) := by decide +kernel
theorem dX10_bars_10 : decode cX10_bars 10 = .ok (.istore_n 3, 1) := by decide +kernel
theorem dX10_bars_11 : decode cX10_bars 11 = .ok (.aload_n 0, 1) := by decide +kernel
theorem dX10_bars_12 : decode cX10_bars 12 = .ok (.getfield 23, 3) := by decide +kernel
theorem dX10_bars_15 : decode cX10_bars 15 = .ok (.aload_n 0, 1) := by decide +kernel
theorem dX10_bars_16 : decode cX10_bars 16 = .ok (.getfield 50, 3) := by decide +kernel
theorem dX10_bars_19 : decode cX10_bars 19 = .ok (.iload_n 1, 1) := by decide +kernel
theorem dX10_bars_20 : decode cX10_bars 20 = .ok (.iaload, 1) := by decide +kernel
theorem dX10_bars_21 : decode cX10_bars 21 = .ok (.iaload, 1) := by decide +kernel
theorem dX10_bars_22 : decode cX10_bars 22 = .ok (.i2l, 1) := by decide +kernel
theorem dX10_bars_23 : decode cX10_bars 23 = .ok (.aload_n 0, 1) := by decide +kernel
theorem dX10_bars_24 : decode cX10_bars 24 = .ok (.getfield 38, 3) := by decide +kernel
theorem dX10_bars_27 : decode cX10_bars 27 = .ok (.iload_n 3, 1) := by decide +kernel
theorem dX10_bars_28 : decode cX10_bars 28 = .ok (.iaload, 1) := by decide +kernel
theorem dX10_bars_29 : decode cX10_bars 29 = .ok (.i2l, 1) := by decide +kernel
theorem dX10_bars_30 : decode cX10_bars 30 = .ok (.aload_n 0, 1) := by decide +kernel
theorem dX10_bars_31 : decode cX10_bars 31 = .ok (.getfield 41, 3) := by decide +kernel
theorem dX10_bars_34 : decode cX10_bars 34 = .ok (.iload_n 3, 1) := by decide +kernel
theorem dX10_bars_35 : decode cX10_bars 35 = .ok (.iaload, 1) := by decide +kernel
theorem dX10_bars_36 : decode cX10_bars 36 = .ok (.i2l, 1) := by decide +kernel
theorem dX10_bars_37 : decode cX10_bars 37 = .ok (.invokestatic 149, 3) := by decide +kernel
theorem dX10_bars_40 : decode cX10_bars 40 = .ok (.ifCond .ne 7, 3) := by decide +kernel
theorem dX10_bars_43 : decode cX10_bars 43 = .ok (.iconst 1, 1) := by decide +kernel
theorem dX10_bars_44 : decode cX10_bars 44 = .ok (.goto 4, 3) := by decide +kernel
theorem dX10_bars_47 : decode cX10_bars 47 = .ok (.iconst 0, 1) := by decide +kernel
theorem dX10_bars_48 : decode cX10_bars 48 = .ok (.ireturn, 1) := by decide +kernel
theorem dX10_isOdd_0 : decode cX10_isOdd 0 = .ok (.aload_n 0, 1) := by decide +kernel
theorem dX10_isOdd_1 : decode cX10_isOdd 1 = .ok (.iload_n 1, 1) := by decide +kernel
theorem dX10_isOdd_2 : decode cX10_isOdd 2 = .ok (.iload_n 2, 1) := by decide +kernel
theorem dX10_isOdd_3 : decode cX10_isOdd 3 = .ok (.invokevirtual 195, 3) := by decide +kernel
theorem dX10_isOdd_6 : decode cX10_isOdd 6 = .ok (.ifCond .ne 31, 3) := by decide +kernel
theorem dX10_isOdd_9 : decode cX10_isOdd 9 = .ok (.aload_n 0, 1) := by decide +kernel
theorem dX10_isOdd_10 : decode cX10_isOdd 10 = .ok (.iload_n 1, 1) := by decide +kernel
theorem dX10_isOdd_11 : decode cX10_isOdd 11 = .ok (.iload_n 2, 1) := by decide +kernel
theorem dX10_isOdd_12 : decode cX10_isOdd 12 = .ok (.invokevirtual 189, 3) := by decide +kernel
theorem dX10_isOdd_15 : decode cX10_isOdd 15 = .ok (.aload_n 0, 1) := by decide +kernel
theorem dX10_isOdd_16 : decode cX10_isOdd 16 = .ok (.getfield 32, 3) := by decide +kernel
theorem dX10_isOdd_19 : decode cX10_isOdd 19 = .ok (.aload_n 0, 1) := by decide +kernel
theorem dX10_isOdd_20 : decode cX10_isOdd 20 = .ok (.getfield 50, 3) := by decide +kernel
theorem dX10_isOdd_23 : decode cX10_isOdd 23 = .ok (.iload_n 1, 1) := by decide +kernel
theorem dX10_isOdd_24 : decode cX10_isOdd 24 = .ok (.iaload, 1) := by decide +kernel
theorem dX10_isOdd_25 : decode cX10_isOdd 25 = .ok (.iaload, 1) := by decide +kernel
theorem dX10_isOdd_26 : decode cX10_isOdd 26 = .ok (.iload_n 2, 1) := by decide +kernel
theorem dX10_isOdd_27 : decode cX10_isOdd 27 = .ok (.invokestatic 179, 3) := by decide +kernel
theorem dX10_isOdd_30 : decode cX10_isOdd 30 = .ok (.if_icmp .eq 7, 3) := by decide +kernel
theorem dX10_isOdd_33 : decode cX10_isOdd 33 = .ok (.iconst 1, 1) := by decide +kernel
theorem dX10_isOdd_34 : decode cX10_isOdd 34 = .ok (.goto 4, 3) := by decide +kernel
theorem dX10_isOdd_37 : decode cX10_isOdd 37 = .ok (.iconst 0, 1) := by decide +kernel
theorem dX10_isOdd_38 : decode cX10_isOdd 38 = .ok (.ireturn, 1) := by decide +kernel
theorem dX10_barsOf_0 : decode cX10_barsOf 0 = .ok (.aload_n 0, 1) := by decide +kernel
theorem dX10_barsOf_1 : decode cX10_barsOf 1 = .ok (.iload_n 1, 1) := by decide +kernel
theorem dX10_barsOf_2 : decode cX10_barsOf 2 = .ok (.iconst 0, 1) := by decide +kernel
theorem dX10_barsOf_3 : decode cX10_barsOf 3 = .ok (.invokevirtual 195, 3) := by decide +kernel
theorem dX10_barsOf_6 : decode cX10_barsOf 6 = .ok (.ifCond .eq 7, 3) := by decide +kernel
theorem dX10_barsOf_9 : decode cX10_barsOf 9 = .ok (.iconst 1, 1) := by decide +kernel
theorem dX10_barsOf_10 : decode cX10_barsOf 10 = .ok (.goto 4, 3) := by decide +kernel
theorem dX10_barsOf_13 : decode cX10_barsOf 13 = .ok (.iconst 0, 1) := by decide +kernel
theorem dX10_barsOf_14 : decode cX10_barsOf 14 = .ok (.aload_n 0, 1) := by decide +kernel
theorem dX10_barsOf_15 : decode cX10_barsOf 15 = .ok (.iload_n 1, 1) := by decide +kernel
theorem dX10_barsOf_16 : decode cX10_barsOf 16 = .ok (.iconst 1, 1) := by decide +kernel
theorem dX10_barsOf_17 : decode cX10_barsOf 17 = .ok (.invokevirtual 195, 3) := by decide +kernel
theorem dX10_barsOf_20 : decode cX10_barsOf 20 = .ok (.ifCond .eq 7, 3) := by decide +kernel
theorem dX10_barsOf_23 : decode cX10_barsOf 23 = .ok (.iconst 2, 1) := by decide +kernel
theorem dX10_barsOf_24 : decode cX10_barsOf 24 = .ok (.goto 4, 3) := by decide +kernel
theorem dX10_barsOf_27 : decode cX10_barsOf 27 = .ok (.iconst 0, 1) := by decide +kernel
theorem dX10_barsOf_28 : decode cX10_barsOf 28 = .ok (.iadd, 1) := by decide +kernel
theorem dX10_barsOf_29 : decode cX10_barsOf 29 = .ok (.aload_n 0, 1) := by decide +kernel
theorem dX10_barsOf_30 : decode cX10_barsOf 30 = .ok (.iload_n 1, 1) := by decide +kernel
theorem dX10_barsOf_31 : decode cX10_barsOf 31 = .ok (.iconst 2, 1) := by decide +kernel
theorem dX10_barsOf_32 : decode cX10_barsOf 32 = .ok (.invokevirtual 195, 3) := by decide +kernel
theorem dX10_barsOf_35 : decode cX10_barsOf 35 = .ok (.ifCond .eq 7, 3) := by decide +kernel
theorem dX10_barsOf_38 : decode cX10_barsOf 38 = .ok (.iconst 4, 1) := by decide +kernel
theorem dX10_barsOf_39 : decode cX10_barsOf 39 = .ok (.goto 4, 3) := by decide +kernel
theorem dX10_barsOf_42 : decode cX10_barsOf 42 = .ok (.iconst 0, 1) := by decide +kernel
theorem dX10_barsOf_43 : decode cX10_barsOf 43 = .ok (.iadd, 1) := by decide +kernel
theorem dX10_barsOf_44 : decode cX10_barsOf 44 = .ok (.ireturn, 1) := by decide +kernel
theorem dX10_oddsOf_0 : decode cX10_oddsOf 0 = .ok (.aload_n 0, 1) := by decide +kernel
theorem dX10_oddsOf_1 : decode cX10_oddsOf 1 = .ok (.iload_n 1, 1) := by decide +kernel
theorem dX10_oddsOf_2 : decode cX10_oddsOf 2 = .ok (.iconst 0, 1) := by decide +kernel
theorem dX10_oddsOf_3 : decode cX10_oddsOf 3 = .ok (.invokevirtual 199, 3) := by decide +kernel
theorem dX10_oddsOf_6 : decode cX10_oddsOf 6 = .ok (.ifCond .eq 7, 3) := by decide +kernel
theorem dX10_oddsOf_9 : decode cX10_oddsOf 9 = .ok (.iconst 1, 1) := by decide +kernel
theorem dX10_oddsOf_10 : decode cX10_oddsOf 10 = .ok (.goto 4, 3) := by decide +kernel
theorem dX10_oddsOf_13 : decode cX10_oddsOf 13 = .ok (.iconst 0, 1) := by decide +kernel
theorem dX10_oddsOf_14 : decode cX10_oddsOf 14 = .ok (.aload_n 0, 1) := by decide +kernel
theorem dX10_oddsOf_15 : decode cX10_oddsOf 15 = .ok (.iload_n 1, 1) := by decide +kernel
theorem dX10_oddsOf_16 : decode cX10_oddsOf 16 = .ok (.iconst 1, 1) := by decide +kernel
theorem dX10_oddsOf_17 : decode cX10_oddsOf 17 = .ok (.invokevirtual 199, 3) := by decide +kernel
theorem dX10_oddsOf_20 : decode cX10_oddsOf 20 = .ok (.ifCond .eq 7, 3) := by decide +kernel
theorem dX10_oddsOf_23 : decode cX10_oddsOf 23 = .ok (.iconst 2, 1) := by decide +kernel
theorem dX10_oddsOf_24 : decode cX10_oddsOf 24 = .ok (.goto 4, 3) := by decide +kernel
theorem dX10_oddsOf_27 : decode cX10_oddsOf 27 = .ok (.iconst 0, 1) := by decide +kernel
theorem dX10_oddsOf_28 : decode cX10_oddsOf 28 = .ok (.iadd, 1) := by decide +kernel
theorem dX10_oddsOf_29 : decode cX10_oddsOf 29 = .ok (.aload_n 0, 1) := by decide +kernel
theorem dX10_oddsOf_30 : decode cX10_oddsOf 30 = .ok (.iload_n 1, 1) := by decide +kernel
theorem dX10_oddsOf_31 : decode cX10_oddsOf 31 = .ok (.iconst 2, 1) := by decide +kernel
theorem dX10_oddsOf_32 : decode cX10_oddsOf 32 = .ok (.invokevirtual 199, 3) := by decide +kernel
theorem dX10_oddsOf_35 : decode cX10_oddsOf 35 = .ok (.ifCond .eq 7, 3) := by decide +kernel
theorem dX10_oddsOf_38 : decode cX10_oddsOf 38 = .ok (.iconst 4, 1) := by decide +kernel
theorem dX10_oddsOf_39 : decode cX10_oddsOf 39 = .ok (.goto 4, 3) := by decide +kernel
theorem dX10_oddsOf_42 : decode cX10_oddsOf 42 = .ok (.iconst 0, 1) := by decide +kernel
theorem dX10_oddsOf_43 : decode cX10_oddsOf 43 = .ok (.iadd, 1) := by decide +kernel
theorem dX10_oddsOf_44 : decode cX10_oddsOf 44 = .ok (.ireturn, 1) := by decide +kernel
theorem dX10_isBarred_0 : decode cX10_isBarred 0 = .ok (.aload_n 0, 1) := by decide +kernel
theorem dX10_isBarred_1 : decode cX10_isBarred 1 = .ok (.iload_n 1, 1) := by decide +kernel
theorem dX10_isBarred_2 : decode cX10_isBarred 2 = .ok (.invokevirtual 202, 3) := by decide +kernel
theorem dX10_isBarred_5 : decode cX10_isBarred 5 = .ok (.ifCond .ne 17, 3) := by decide +kernel
theorem dX10_isBarred_8 : decode cX10_isBarred 8 = .ok (.aload_n 0, 1) := by decide +kernel
theorem dX10_isBarred_9 : decode cX10_isBarred 9 = .ok (.getfield 26, 3) := by decide +kernel
theorem dX10_isBarred_12 : decode cX10_isBarred 12 = .ok (.aload_n 0, 1) := by decide +kernel
theorem dX10_isBarred_13 : decode cX10_isBarred 13 = .ok (.getfield 50, 3) := by decide +kernel
theorem dX10_isBarred_16 : decode cX10_isBarred 16 = .ok (.iload_n 1, 1) := by decide +kernel
theorem dX10_isBarred_17 : decode cX10_isBarred 17 = .ok (.iaload, 1) := by decide +kernel
theorem dX10_isBarred_18 : decode cX10_isBarred 18 = .ok (.iaload, 1) := by decide +kernel
theorem dX10_isBarred_19 : decode cX10_isBarred 19 = .ok (.ifCond .ne 7, 3) := by decide +kernel
theorem dX10_isBarred_22 : decode cX10_isBarred 22 = .ok (.iconst 1, 1) := by decide +kernel
theorem dX10_isBarred_23 : decode cX10_isBarred 23 = .ok (.goto 4, 3) := by decide +kernel
theorem dX10_isBarred_26 : decode cX10_isBarred 26 = .ok (.iconst 0, 1) := by decide +kernel
theorem dX10_isBarred_27 : decode cX10_isBarred 27 = .ok (.ireturn, 1) := by decide +kernel
theorem dX10_bitsOf_0 : decode cX10_bitsOf 0 = .ok (.iconst 0, 1) := by decide +kernel
theorem dX10_bitsOf_1 : decode cX10_bitsOf 1 = .ok (.istore_n 1, 1) := by decide +kernel
theorem dX10_bitsOf_2 : decode cX10_bitsOf 2 = .ok (.iload_n 0, 1) := by decide +kernel
theorem dX10_bitsOf_3 : decode cX10_bitsOf 3 = .ok (.istore_n 2, 1) := by decide +kernel
theorem dX10_bitsOf_4 : decode cX10_bitsOf 4 = .ok (.iload_n 2, 1) := by decide +kernel
theorem dX10_bitsOf_5 : decode cX10_bitsOf 5 = .ok (.ifCond .eq 15, 3) := by decide +kernel
theorem dX10_bitsOf_8 : decode cX10_bitsOf 8 = .ok (.iinc 1 1, 3) := by decide +kernel
theorem dX10_bitsOf_11 : decode cX10_bitsOf 11 = .ok (.iload_n 2, 1) := by decide +kernel
theorem dX10_bitsOf_12 : decode cX10_bitsOf 12 = .ok (.iload_n 2, 1) := by decide +kernel
theorem dX10_bitsOf_13 : decode cX10_bitsOf 13 = .ok (.iconst 1, 1) := by decide +kernel
theorem dX10_bitsOf_14 : decode cX10_bitsOf 14 = .ok (.isub, 1) := by decide +kernel
theorem dX10_bitsOf_15 : decode cX10_bitsOf 15 = .ok (.iand, 1) := by decide +kernel
theorem dX10_bitsOf_16 : decode cX10_bitsOf 16 = .ok (.istore_n 2, 1) := by decide +kernel
theorem dX10_bitsOf_17 : decode cX10_bitsOf 17 = .ok (.goto (-13), 3) := by decide +kernel
theorem dX10_bitsOf_20 : decode cX10_bitsOf 20 = .ok (.iload_n 1, 1) := by decide +kernel
theorem dX10_bitsOf_21 : decode cX10_bitsOf 21 = .ok (.ireturn, 1) := by decide +kernel
theorem dX10_told_0 : decode cX10_told 0 = .ok (.aload_n 0, 1) := by decide +kernel
theorem dX10_told_1 : decode cX10_told 1 = .ok (.iload_n 1, 1) := by decide +kernel
theorem dX10_told_2 : decode cX10_told 2 = .ok (.invokevirtual 186, 3) := by decide +kernel
theorem dX10_told_5 : decode cX10_told 5 = .ok (.ifCond .ne 6, 3) := by decide +kernel
theorem dX10_told_8 : decode cX10_told 8 = .ok (.bipush (-5), 2) := by decide +kernel
theorem dX10_told_10 : decode cX10_told 10 = .ok (.ireturn, 1) := by decide +kernel
theorem dX10_told_11 : decode cX10_told 11 = .ok (.iload_n 2, 1) := by decide +kernel
theorem dX10_told_12 : decode cX10_told 12 = .ok (.tableswitch 140 0 10 #[60, 67, 74, 80, 86, 100, 106, 116, 122, 128, 134], 60) := by decide +kernel
theorem dX10_told_72 : decode cX10_told 72 = .ok (.aload_n 0, 1) := by decide +kernel
theorem dX10_told_73 : decode cX10_told 73 = .ok (.getfield 47, 3) := by decide +kernel
theorem dX10_told_76 : decode cX10_told 76 = .ok (.iload_n 1, 1) := by decide +kernel
theorem dX10_told_77 : decode cX10_told 77 = .ok (.iaload, 1) := by decide +kernel
theorem dX10_told_78 : decode cX10_told 78 = .ok (.ireturn, 1) := by decide +kernel
theorem dX10_told_79 : decode cX10_told 79 = .ok (.aload_n 0, 1) := by decide +kernel
theorem dX10_told_80 : decode cX10_told 80 = .ok (.getfield 50, 3) := by decide +kernel
theorem dX10_told_83 : decode cX10_told 83 = .ok (.iload_n 1, 1) := by decide +kernel
theorem dX10_told_84 : decode cX10_told 84 = .ok (.iaload, 1) := by decide +kernel
theorem dX10_told_85 : decode cX10_told 85 = .ok (.ireturn, 1) := by decide +kernel
theorem dX10_told_86 : decode cX10_told 86 = .ok (.aload_n 0, 1) := by decide +kernel
theorem dX10_told_87 : decode cX10_told 87 = .ok (.iload_n 1, 1) := by decide +kernel
theorem dX10_told_88 : decode cX10_told 88 = .ok (.invokevirtual 202, 3) := by decide +kernel
theorem dX10_told_91 : decode cX10_told 91 = .ok (.ireturn, 1) := by decide +kernel
theorem dX10_told_92 : decode cX10_told 92 = .ok (.aload_n 0, 1) := by decide +kernel
theorem dX10_told_93 : decode cX10_told 93 = .ok (.iload_n 1, 1) := by decide +kernel
theorem dX10_told_94 : decode cX10_told 94 = .ok (.invokevirtual 206, 3) := by decide +kernel
theorem dX10_told_97 : decode cX10_told 97 = .ok (.ireturn, 1) := by decide +kernel
theorem dX10_told_98 : decode cX10_told 98 = .ok (.aload_n 0, 1) := by decide +kernel
theorem dX10_told_99 : decode cX10_told 99 = .ok (.iload_n 1, 1) := by decide +kernel
theorem dX10_told_100 : decode cX10_told 100 = .ok (.invokevirtual 209, 3) := by decide +kernel
theorem dX10_told_103 : decode cX10_told 103 = .ok (.ifCond .eq 7, 3) := by decide +kernel
theorem dX10_told_106 : decode cX10_told 106 = .ok (.iconst 1, 1) := by decide +kernel
theorem dX10_told_107 : decode cX10_told 107 = .ok (.goto 4, 3) := by decide +kernel
theorem dX10_told_110 : decode cX10_told 110 = .ok (.iconst 0, 1) := by decide +kernel
theorem dX10_told_111 : decode cX10_told 111 = .ok (.ireturn, 1) := by decide +kernel
theorem dX10_told_112 : decode cX10_told 112 = .ok (.aload_n 0, 1) := by decide +kernel
theorem dX10_told_113 : decode cX10_told 113 = .ok (.iload_n 1, 1) := by decide +kernel
theorem dX10_told_114 : decode cX10_told 114 = .ok (.invokevirtual 212, 3) := by decide +kernel
theorem dX10_told_117 : decode cX10_told 117 = .ok (.ireturn, 1) := by decide +kernel
theorem dX10_told_118 : decode cX10_told 118 = .ok (.aload_n 0, 1) := by decide +kernel
theorem dX10_told_119 : decode cX10_told 119 = .ok (.getfield 47, 3) := by decide +kernel
theorem dX10_told_122 : decode cX10_told 122 = .ok (.iload_n 1, 1) := by decide +kernel
theorem dX10_told_123 : decode cX10_told 123 = .ok (.iaload, 1) := by decide +kernel
theorem dX10_told_124 : decode cX10_told 124 = .ok (.invokestatic 215, 3) := by decide +kernel
theorem dX10_told_127 : decode cX10_told 127 = .ok (.ireturn, 1) := by decide +kernel
theorem dX10_told_128 : decode cX10_told 128 = .ok (.aload_n 0, 1) := by decide +kernel
theorem dX10_told_129 : decode cX10_told 129 = .ok (.iload_n 1, 1) := by decide +kernel
theorem dX10_told_130 : decode cX10_told 130 = .ok (.invokevirtual 218, 3) := by decide +kernel
theorem dX10_told_133 : decode cX10_told 133 = .ok (.ireturn, 1) := by decide +kernel
theorem dX10_told_134 : decode cX10_told 134 = .ok (.aload_n 0, 1) := by decide +kernel
theorem dX10_told_135 : decode cX10_told 135 = .ok (.iload_n 1, 1) := by decide +kernel
theorem dX10_told_136 : decode cX10_told 136 = .ok (.invokevirtual 221, 3) := by decide +kernel
theorem dX10_told_139 : decode cX10_told 139 = .ok (.ireturn, 1) := by decide +kernel
theorem dX10_told_140 : decode cX10_told 140 = .ok (.aload_n 0, 1) := by decide +kernel
theorem dX10_told_141 : decode cX10_told 141 = .ok (.iload_n 1, 1) := by decide +kernel
theorem dX10_told_142 : decode cX10_told 142 = .ok (.invokevirtual 224, 3) := by decide +kernel
theorem dX10_told_145 : decode cX10_told 145 = .ok (.ireturn, 1) := by decide +kernel
theorem dX10_told_146 : decode cX10_told 146 = .ok (.aload_n 0, 1) := by decide +kernel
theorem dX10_told_147 : decode cX10_told 147 = .ok (.iload_n 1, 1) := by decide +kernel
theorem dX10_told_148 : decode cX10_told 148 = .ok (.invokevirtual 227, 3) := by decide +kernel
theorem dX10_told_151 : decode cX10_told 151 = .ok (.ireturn, 1) := by decide +kernel
theorem dX10_told_152 : decode cX10_told 152 = .ok (.bipush (-5), 2) := by decide +kernel
theorem dX10_told_154 : decode cX10_told 154 = .ok (.ireturn, 1) := by decide +kernel
theorem dX10_lastOf_0 : decode cX10_lastOf 0 = .ok (.iload_n 2, 1) := by decide +kernel
theorem dX10_lastOf_1 : decode cX10_lastOf 1 = .ok (.iconst 1, 1) := by decide +kernel
theorem dX10_lastOf_2 : decode cX10_lastOf 2 = .ok (.isub, 1) := by decide +kernel
theorem dX10_lastOf_3 : decode cX10_lastOf 3 = .ok (.istore_n 3, 1) := by decide +kernel
theorem dX10_lastOf_4 : decode cX10_lastOf 4 = .ok (.iload_n 3, 1) := by decide +kernel
theorem dX10_lastOf_5 : decode cX10_lastOf 5 = .ok (.ifCond .lt 21, 3) := by decide +kernel
theorem dX10_lastOf_8 : decode cX10_lastOf 8 = .ok (.aload_n 0, 1) := by decide +kernel
theorem dX10_lastOf_9 : decode cX10_lastOf 9 = .ok (.getfield 59, 3) := by decide +kernel
theorem dX10_lastOf_12 : decode cX10_lastOf 12 = .ok (.iload_n 3, 1) := by decide +kernel
theorem dX10_lastOf_13 : decode cX10_lastOf 13 = .ok (.iaload, 1) := by decide +kernel
theorem dX10_lastOf_14 : decode cX10_lastOf 14 = .ok (.iload_n 1, 1) := by decide +kernel
theorem dX10_lastOf_15 : decode cX10_lastOf 15 = .ok (.if_icmp .ne 5, 3) := by decide +kernel
theorem dX10_lastOf_18 : decode cX10_lastOf 18 = .ok (.iload_n 3, 1) := by decide +kernel
theorem dX10_lastOf_19 : decode cX10_lastOf 19 = .ok (.ireturn, 1) := by decide +kernel
theorem dX10_lastOf_20 : decode cX10_lastOf 20 = .ok (.iinc 3 (-1), 3) := by decide +kernel
theorem dX10_lastOf_23 : decode cX10_lastOf 23 = .ok (.goto (-19), 3) := by decide +kernel
theorem dX10_lastOf_26 : decode cX10_lastOf 26 = .ok (.iconst (-1), 1) := by decide +kernel
theorem dX10_lastOf_27 : decode cX10_lastOf 27 = .ok (.ireturn, 1) := by decide +kernel
theorem dX10_sale_0 : decode cX10_sale 0 = .ok (.aload_n 0, 1) := by decide +kernel
theorem dX10_sale_1 : decode cX10_sale 1 = .ok (.iload_n 1, 1) := by decide +kernel
theorem dX10_sale_2 : decode cX10_sale 2 = .ok (.invokevirtual 186, 3) := by decide +kernel
theorem dX10_sale_5 : decode cX10_sale 5 = .ok (.ifCond .eq 51, 3) := by decide +kernel
theorem dX10_sale_8 : decode cX10_sale 8 = .ok (.iload_n 2, 1) := by decide +kernel
theorem dX10_sale_9 : decode cX10_sale 9 = .ok (.i2l, 1) := by decide +kernel
theorem dX10_sale_10 : decode cX10_sale 10 = .ok (.lconst 0, 1) := by decide +kernel
theorem dX10_sale_11 : decode cX10_sale 11 = .ok (.ldc2_w 155, 3) := by decide +kernel
theorem dX10_sale_14 : decode cX10_sale 14 = .ok (.invokestatic 149, 3) := by decide +kernel
theorem dX10_sale_17 : decode cX10_sale 17 = .ok (.ifCond .eq 39, 3) := by decide +kernel
theorem dX10_sale_20 : decode cX10_sale 20 = .ok (.iload_n 2, 1) := by decide +kernel
theorem dX10_sale_21 : decode cX10_sale 21 = .ok (.bipush 10, 2) := by decide +kernel
theorem dX10_sale_23 : decode cX10_sale 23 = .ok (.idiv, 1) := by decide +kernel
theorem dX10_sale_24 : decode cX10_sale 24 = .ok (.iload_n 2, 1) := by decide +kernel
theorem dX10_sale_25 : decode cX10_sale 25 = .ok (.bipush 10, 2) := by decide +kernel
theorem dX10_sale_27 : decode cX10_sale 27 = .ok (.irem, 1) := by decide +kernel
theorem dX10_sale_28 : decode cX10_sale 28 = .ok (.if_icmp .eq 28, 3) := by decide +kernel
theorem dX10_sale_31 : decode cX10_sale 31 = .ok (.iload_n 3, 1) := by decide +kernel
theorem dX10_sale_32 : decode cX10_sale 32 = .ok (.i2l, 1) := by decide +kernel
theorem dX10_sale_33 : decode cX10_sale 33 = .ok (.lconst 0, 1) := by decide +kernel
theorem dX10_sale_34 : decode cX10_sale 34 = .ok (.ldc2_w 230, 3) := by decide +kernel
theorem dX10_sale_37 : decode cX10_sale 37 = .ok (.invokestatic 149, 3) := by decide +kernel
theorem dX10_sale_40 : decode cX10_sale 40 = .ok (.ifCond .eq 16, 3) := by decide +kernel
theorem dX10_sale_43 : decode cX10_sale 43 = .ok (.iload 4, 2) := by decide +kernel
theorem dX10_sale_45 : decode cX10_sale 45 = .ok (.i2l, 1) := by decide +kernel
theorem dX10_sale_46 : decode cX10_sale 46 = .ok (.lconst 0, 1) := by decide +kernel
theorem dX10_sale_47 : decode cX10_sale 47 = .ok (.ldc2_w 155, 3) := by decide +kernel
theorem dX10_sale_50 : decode cX10_sale 50 = .ok (.invokestatic 149, 3) := by decide +kernel
theorem dX10_sale_53 : decode cX10_sale 53 = .ok (.ifCond .ne 6, 3) := by decide +kernel
theorem dX10_sale_56 : decode cX10_sale 56 = .ok (.bipush (-2), 2) := by decide +kernel
theorem dX10_sale_58 : decode cX10_sale 58 = .ok (.ireturn, 1) := by decide +kernel
theorem dX10_sale_59 : decode cX10_sale 59 = .ok (.aload_n 0, 1) := by decide +kernel
theorem dX10_sale_60 : decode cX10_sale 60 = .ok (.iload_n 1, 1) := by decide +kernel
theorem dX10_sale_61 : decode cX10_sale 61 = .ok (.aload_n 0, 1) := by decide +kernel
theorem dX10_sale_62 : decode cX10_sale 62 = .ok (.getfield 232, 3) := by decide +kernel
theorem dX10_sale_65 : decode cX10_sale 65 = .ok (.invokevirtual 235, 3) := by decide +kernel
theorem dX10_sale_68 : decode cX10_sale 68 = .ok (.istore 5, 2) := by decide +kernel
theorem dX10_sale_70 : decode cX10_sale 70 = .ok (.iload 5, 2) := by decide +kernel
theorem dX10_sale_72 : decode cX10_sale 72 = .ok (.iconst (-1), 1) := by decide +kernel
theorem dX10_sale_73 : decode cX10_sale 73 = .ok (.if_icmp .eq 18, 3) := by decide +kernel
theorem dX10_sale_76 : decode cX10_sale 76 = .ok (.iload 4, 2) := by decide +kernel
theorem dX10_sale_78 : decode cX10_sale 78 = .ok (.aload_n 0, 1) := by decide +kernel
theorem dX10_sale_79 : decode cX10_sale 79 = .ok (.getfield 71, 3) := by decide +kernel
theorem dX10_sale_82 : decode cX10_sale 82 = .ok (.iload 5, 2) := by decide +kernel
theorem dX10_sale_84 : decode cX10_sale 84 = .ok (.iaload, 1) := by decide +kernel
theorem dX10_sale_85 : decode cX10_sale 85 = .ok (.if_icmp .ge 6, 3) := by decide +kernel
theorem dX10_sale_88 : decode cX10_sale 88 = .ok (.bipush (-2), 2) := by decide +kernel
end
section
theorem dX10_sale_90 : decode cX10_sale 90 = .ok (.ireturn, 1) := by decide +kernel
theorem dX10_sale_91 : decode cX10_sale 91 = .ok (.aload_n 0, 1) := by decide +kernel
theorem dX10_sale_92 : decode cX10_sale 92 = .ok (.getfield 232, 3) := by decide +kernel
theorem dX10_sale_95 : decode cX10_sale 95 = .ok (.bipush 40, 2) := by decide +kernel
theorem dX10_sale_97 : decode cX10_sale 97 = .ok (.if_icmp .ne 6, 3) := by decide +kernel
theorem dX10_sale_100 : decode cX10_sale 100 = .ok (.bipush (-4), 2) := by decide +kernel
theorem dX10_sale_102 : decode cX10_sale 102 = .ok (.ireturn, 1) := by decide +kernel
theorem dX10_sale_103 : decode cX10_sale 103 = .ok (.aload_n 0, 1) := by decide +kernel
theorem dX10_sale_104 : decode cX10_sale 104 = .ok (.getfield 59, 3) := by decide +kernel
theorem dX10_sale_107 : decode cX10_sale 107 = .ok (.aload_n 0, 1) := by decide +kernel
theorem dX10_sale_108 : decode cX10_sale 108 = .ok (.getfield 232, 3) := by decide +kernel
theorem dX10_sale_111 : decode cX10_sale 111 = .ok (.iload_n 1, 1) := by decide +kernel
theorem dX10_sale_112 : decode cX10_sale 112 = .ok (.iastore, 1) := by decide +kernel
theorem dX10_sale_113 : decode cX10_sale 113 = .ok (.aload_n 0, 1) := by decide +kernel
theorem dX10_sale_114 : decode cX10_sale 114 = .ok (.getfield 62, 3) := by decide +kernel
theorem dX10_sale_117 : decode cX10_sale 117 = .ok (.aload_n 0, 1) := by decide +kernel
theorem dX10_sale_118 : decode cX10_sale 118 = .ok (.getfield 232, 3) := by decide +kernel
theorem dX10_sale_121 : decode cX10_sale 121 = .ok (.iload_n 2, 1) := by decide +kernel
theorem dX10_sale_122 : decode cX10_sale 122 = .ok (.bipush 10, 2) := by decide +kernel
theorem dX10_sale_124 : decode cX10_sale 124 = .ok (.idiv, 1) := by decide +kernel
theorem dX10_sale_125 : decode cX10_sale 125 = .ok (.iastore, 1) := by decide +kernel
theorem dX10_sale_126 : decode cX10_sale 126 = .ok (.aload_n 0, 1) := by decide +kernel
theorem dX10_sale_127 : decode cX10_sale 127 = .ok (.getfield 65, 3) := by decide +kernel
theorem dX10_sale_130 : decode cX10_sale 130 = .ok (.aload_n 0, 1) := by decide +kernel
theorem dX10_sale_131 : decode cX10_sale 131 = .ok (.getfield 232, 3) := by decide +kernel
theorem dX10_sale_134 : decode cX10_sale 134 = .ok (.iload_n 2, 1) := by decide +kernel
theorem dX10_sale_135 : decode cX10_sale 135 = .ok (.bipush 10, 2) := by decide +kernel
theorem dX10_sale_137 : decode cX10_sale 137 = .ok (.irem, 1) := by decide +kernel
theorem dX10_sale_138 : decode cX10_sale 138 = .ok (.iastore, 1) := by decide +kernel
theorem dX10_sale_139 : decode cX10_sale 139 = .ok (.aload_n 0, 1) := by decide +kernel
theorem dX10_sale_140 : decode cX10_sale 140 = .ok (.getfield 68, 3) := by decide +kernel
theorem dX10_sale_143 : decode cX10_sale 143 = .ok (.aload_n 0, 1) := by decide +kernel
theorem dX10_sale_144 : decode cX10_sale 144 = .ok (.getfield 232, 3) := by decide +kernel
theorem dX10_sale_147 : decode cX10_sale 147 = .ok (.iload_n 3, 1) := by decide +kernel
theorem dX10_sale_148 : decode cX10_sale 148 = .ok (.iastore, 1) := by decide +kernel
theorem dX10_sale_149 : decode cX10_sale 149 = .ok (.aload_n 0, 1) := by decide +kernel
theorem dX10_sale_150 : decode cX10_sale 150 = .ok (.getfield 71, 3) := by decide +kernel
theorem dX10_sale_153 : decode cX10_sale 153 = .ok (.aload_n 0, 1) := by decide +kernel
theorem dX10_sale_154 : decode cX10_sale 154 = .ok (.getfield 232, 3) := by decide +kernel
theorem dX10_sale_157 : decode cX10_sale 157 = .ok (.iload 4, 2) := by decide +kernel
theorem dX10_sale_159 : decode cX10_sale 159 = .ok (.iastore, 1) := by decide +kernel
theorem dX10_sale_160 : decode cX10_sale 160 = .ok (.aload_n 0, 1) := by decide +kernel
theorem dX10_sale_161 : decode cX10_sale 161 = .ok (.dup, 1) := by decide +kernel
theorem dX10_sale_162 : decode cX10_sale 162 = .ok (.getfield 232, 3) := by decide +kernel
theorem dX10_sale_165 : decode cX10_sale 165 = .ok (.iconst 1, 1) := by decide +kernel
theorem dX10_sale_166 : decode cX10_sale 166 = .ok (.iadd, 1) := by decide +kernel
theorem dX10_sale_167 : decode cX10_sale 167 = .ok (.putfield 232, 3) := by decide +kernel
theorem dX10_sale_170 : decode cX10_sale 170 = .ok (.aload_n 0, 1) := by decide +kernel
theorem dX10_sale_171 : decode cX10_sale 171 = .ok (.getfield 232, 3) := by decide +kernel
theorem dX10_sale_174 : decode cX10_sale 174 = .ok (.iconst 1, 1) := by decide +kernel
theorem dX10_sale_175 : decode cX10_sale 175 = .ok (.isub, 1) := by decide +kernel
theorem dX10_sale_176 : decode cX10_sale 176 = .ok (.ireturn, 1) := by decide +kernel
theorem dX10_gapOf_0 : decode cX10_gapOf 0 = .ok (.iconst 0, 1) := by decide +kernel
theorem dX10_gapOf_1 : decode cX10_gapOf 1 = .ok (.istore_n 2, 1) := by decide +kernel
theorem dX10_gapOf_2 : decode cX10_gapOf 2 = .ok (.iconst 0, 1) := by decide +kernel
theorem dX10_gapOf_3 : decode cX10_gapOf 3 = .ok (.istore_n 3, 1) := by decide +kernel
theorem dX10_gapOf_4 : decode cX10_gapOf 4 = .ok (.iload_n 3, 1) := by decide +kernel
theorem dX10_gapOf_5 : decode cX10_gapOf 5 = .ok (.aload_n 0, 1) := by decide +kernel
theorem dX10_gapOf_6 : decode cX10_gapOf 6 = .ok (.getfield 232, 3) := by decide +kernel
theorem dX10_gapOf_9 : decode cX10_gapOf 9 = .ok (.if_icmp .ge 57, 3) := by decide +kernel
theorem dX10_gapOf_12 : decode cX10_gapOf 12 = .ok (.aload_n 0, 1) := by decide +kernel
theorem dX10_gapOf_13 : decode cX10_gapOf 13 = .ok (.iload_n 1, 1) := by decide +kernel
theorem dX10_gapOf_14 : decode cX10_gapOf 14 = .ok (.iload_n 3, 1) := by decide +kernel
theorem dX10_gapOf_15 : decode cX10_gapOf 15 = .ok (.invokevirtual 235, 3) := by decide +kernel
theorem dX10_gapOf_18 : decode cX10_gapOf 18 = .ok (.istore 4, 2) := by decide +kernel
theorem dX10_gapOf_20 : decode cX10_gapOf 20 = .ok (.iload_n 2, 1) := by decide +kernel
theorem dX10_gapOf_21 : decode cX10_gapOf 21 = .ok (.aload_n 0, 1) := by decide +kernel
theorem dX10_gapOf_22 : decode cX10_gapOf 22 = .ok (.getfield 59, 3) := by decide +kernel
theorem dX10_gapOf_25 : decode cX10_gapOf 25 = .ok (.iload_n 3, 1) := by decide +kernel
theorem dX10_gapOf_26 : decode cX10_gapOf 26 = .ok (.iaload, 1) := by decide +kernel
theorem dX10_gapOf_27 : decode cX10_gapOf 27 = .ok (.iload_n 1, 1) := by decide +kernel
theorem dX10_gapOf_28 : decode cX10_gapOf 28 = .ok (.if_icmp .ne 29, 3) := by decide +kernel
theorem dX10_gapOf_31 : decode cX10_gapOf 31 = .ok (.iload 4, 2) := by decide +kernel
theorem dX10_gapOf_33 : decode cX10_gapOf 33 = .ok (.iconst (-1), 1) := by decide +kernel
theorem dX10_gapOf_34 : decode cX10_gapOf 34 = .ok (.if_icmp .eq 23, 3) := by decide +kernel
theorem dX10_gapOf_37 : decode cX10_gapOf 37 = .ok (.aload_n 0, 1) := by decide +kernel
theorem dX10_gapOf_38 : decode cX10_gapOf 38 = .ok (.getfield 65, 3) := by decide +kernel
theorem dX10_gapOf_41 : decode cX10_gapOf 41 = .ok (.iload 4, 2) := by decide +kernel
theorem dX10_gapOf_43 : decode cX10_gapOf 43 = .ok (.iaload, 1) := by decide +kernel
theorem dX10_gapOf_44 : decode cX10_gapOf 44 = .ok (.aload_n 0, 1) := by decide +kernel
theorem dX10_gapOf_45 : decode cX10_gapOf 45 = .ok (.getfield 62, 3) := by decide +kernel
theorem dX10_gapOf_48 : decode cX10_gapOf 48 = .ok (.iload_n 3, 1) := by decide +kernel
theorem dX10_gapOf_49 : decode cX10_gapOf 49 = .ok (.iaload, 1) := by decide +kernel
theorem dX10_gapOf_50 : decode cX10_gapOf 50 = .ok (.if_icmp .eq 7, 3) := by decide +kernel
theorem dX10_gapOf_53 : decode cX10_gapOf 53 = .ok (.iconst 1, 1) := by decide +kernel
theorem dX10_gapOf_54 : decode cX10_gapOf 54 = .ok (.goto 4, 3) := by decide +kernel
theorem dX10_gapOf_57 : decode cX10_gapOf 57 = .ok (.iconst 0, 1) := by decide +kernel
theorem dX10_gapOf_58 : decode cX10_gapOf 58 = .ok (.iadd, 1) := by decide +kernel
theorem dX10_gapOf_59 : decode cX10_gapOf 59 = .ok (.istore_n 2, 1) := by decide +kernel
theorem dX10_gapOf_60 : decode cX10_gapOf 60 = .ok (.iinc 3 1, 3) := by decide +kernel
theorem dX10_gapOf_63 : decode cX10_gapOf 63 = .ok (.goto (-59), 3) := by decide +kernel
theorem dX10_gapOf_66 : decode cX10_gapOf 66 = .ok (.iload_n 2, 1) := by decide +kernel
theorem dX10_gapOf_67 : decode cX10_gapOf 67 = .ok (.ireturn, 1) := by decide +kernel
theorem dX10_ownerOf_0 : decode cX10_ownerOf 0 = .ok (.aload_n 0, 1) := by decide +kernel
theorem dX10_ownerOf_1 : decode cX10_ownerOf 1 = .ok (.iload_n 1, 1) := by decide +kernel
theorem dX10_ownerOf_2 : decode cX10_ownerOf 2 = .ok (.aload_n 0, 1) := by decide +kernel
theorem dX10_ownerOf_3 : decode cX10_ownerOf 3 = .ok (.getfield 232, 3) := by decide +kernel
theorem dX10_ownerOf_6 : decode cX10_ownerOf 6 = .ok (.invokevirtual 235, 3) := by decide +kernel
theorem dX10_ownerOf_9 : decode cX10_ownerOf 9 = .ok (.istore_n 2, 1) := by decide +kernel
theorem dX10_ownerOf_10 : decode cX10_ownerOf 10 = .ok (.iload_n 2, 1) := by decide +kernel
theorem dX10_ownerOf_11 : decode cX10_ownerOf 11 = .ok (.iconst (-1), 1) := by decide +kernel
theorem dX10_ownerOf_12 : decode cX10_ownerOf 12 = .ok (.if_icmp .ne 7, 3) := by decide +kernel
theorem dX10_ownerOf_15 : decode cX10_ownerOf 15 = .ok (.iconst (-1), 1) := by decide +kernel
theorem dX10_ownerOf_16 : decode cX10_ownerOf 16 = .ok (.goto 9, 3) := by decide +kernel
theorem dX10_ownerOf_19 : decode cX10_ownerOf 19 = .ok (.aload_n 0, 1) := by decide +kernel
theorem dX10_ownerOf_20 : decode cX10_ownerOf 20 = .ok (.getfield 65, 3) := by decide +kernel
theorem dX10_ownerOf_23 : decode cX10_ownerOf 23 = .ok (.iload_n 2, 1) := by decide +kernel
theorem dX10_ownerOf_24 : decode cX10_ownerOf 24 = .ok (.iaload, 1) := by decide +kernel
theorem dX10_ownerOf_25 : decode cX10_ownerOf 25 = .ok (.ireturn, 1) := by decide +kernel
theorem dX10_soldOf_0 : decode cX10_soldOf 0 = .ok (.iconst 0, 1) := by decide +kernel
theorem dX10_soldOf_1 : decode cX10_soldOf 1 = .ok (.istore_n 2, 1) := by decide +kernel
theorem dX10_soldOf_2 : decode cX10_soldOf 2 = .ok (.iconst 0, 1) := by decide +kernel
theorem dX10_soldOf_3 : decode cX10_soldOf 3 = .ok (.istore_n 3, 1) := by decide +kernel
theorem dX10_soldOf_4 : decode cX10_soldOf 4 = .ok (.iload_n 3, 1) := by decide +kernel
theorem dX10_soldOf_5 : decode cX10_soldOf 5 = .ok (.aload_n 0, 1) := by decide +kernel
theorem dX10_soldOf_6 : decode cX10_soldOf 6 = .ok (.getfield 174, 3) := by decide +kernel
theorem dX10_soldOf_9 : decode cX10_soldOf 9 = .ok (.if_icmp .ge 36, 3) := by decide +kernel
theorem dX10_soldOf_12 : decode cX10_soldOf 12 = .ok (.iload_n 2, 1) := by decide +kernel
theorem dX10_soldOf_13 : decode cX10_soldOf 13 = .ok (.aload_n 0, 1) := by decide +kernel
theorem dX10_soldOf_14 : decode cX10_soldOf 14 = .ok (.getfield 50, 3) := by decide +kernel
theorem dX10_soldOf_17 : decode cX10_soldOf 17 = .ok (.iload_n 3, 1) := by decide +kernel
theorem dX10_soldOf_18 : decode cX10_soldOf 18 = .ok (.iaload, 1) := by decide +kernel
theorem dX10_soldOf_19 : decode cX10_soldOf 19 = .ok (.iload_n 1, 1) := by decide +kernel
theorem dX10_soldOf_20 : decode cX10_soldOf 20 = .ok (.if_icmp .ne 16, 3) := by decide +kernel
theorem dX10_soldOf_23 : decode cX10_soldOf 23 = .ok (.aload_n 0, 1) := by decide +kernel
theorem dX10_soldOf_24 : decode cX10_soldOf 24 = .ok (.iload_n 3, 1) := by decide +kernel
theorem dX10_soldOf_25 : decode cX10_soldOf 25 = .ok (.invokevirtual 218, 3) := by decide +kernel
theorem dX10_soldOf_28 : decode cX10_soldOf 28 = .ok (.iconst (-1), 1) := by decide +kernel
theorem dX10_soldOf_29 : decode cX10_soldOf 29 = .ok (.if_icmp .eq 7, 3) := by decide +kernel
theorem dX10_soldOf_32 : decode cX10_soldOf 32 = .ok (.iconst 1, 1) := by decide +kernel
theorem dX10_soldOf_33 : decode cX10_soldOf 33 = .ok (.goto 4, 3) := by decide +kernel
theorem dX10_soldOf_36 : decode cX10_soldOf 36 = .ok (.iconst 0, 1) := by decide +kernel
theorem dX10_soldOf_37 : decode cX10_soldOf 37 = .ok (.iadd, 1) := by decide +kernel
theorem dX10_soldOf_38 : decode cX10_soldOf 38 = .ok (.istore_n 2, 1) := by decide +kernel
theorem dX10_soldOf_39 : decode cX10_soldOf 39 = .ok (.iinc 3 1, 3) := by decide +kernel
theorem dX10_soldOf_42 : decode cX10_soldOf 42 = .ok (.goto (-38), 3) := by decide +kernel
theorem dX10_soldOf_45 : decode cX10_soldOf 45 = .ok (.iload_n 2, 1) := by decide +kernel
theorem dX10_soldOf_46 : decode cX10_soldOf 46 = .ok (.ireturn, 1) := by decide +kernel
theorem dX10_feed_0 : decode cX10_feed 0 = .ok (.iload_n 1, 1) := by decide +kernel
theorem dX10_feed_1 : decode cX10_feed 1 = .ok (.i2l, 1) := by decide +kernel
theorem dX10_feed_2 : decode cX10_feed 2 = .ok (.lconst 1, 1) := by decide +kernel
theorem dX10_feed_3 : decode cX10_feed 3 = .ok (.ldc2_w 238, 3) := by decide +kernel
theorem dX10_feed_6 : decode cX10_feed 6 = .ok (.invokestatic 149, 3) := by decide +kernel
theorem dX10_feed_9 : decode cX10_feed 9 = .ok (.ifCond .ne 6, 3) := by decide +kernel
theorem dX10_feed_12 : decode cX10_feed 12 = .ok (.bipush (-2), 2) := by decide +kernel
theorem dX10_feed_14 : decode cX10_feed 14 = .ok (.ireturn, 1) := by decide +kernel
theorem dX10_feed_15 : decode cX10_feed 15 = .ok (.aload_n 0, 1) := by decide +kernel
theorem dX10_feed_16 : decode cX10_feed 16 = .ok (.getfield 240, 3) := by decide +kernel
theorem dX10_feed_19 : decode cX10_feed 19 = .ok (.iload_n 1, 1) := by decide +kernel
theorem dX10_feed_20 : decode cX10_feed 20 = .ok (.iadd, 1) := by decide +kernel
theorem dX10_feed_21 : decode cX10_feed 21 = .ok (.sipush 160, 3) := by decide +kernel
theorem dX10_feed_24 : decode cX10_feed 24 = .ok (.if_icmp .le 6, 3) := by decide +kernel
theorem dX10_feed_27 : decode cX10_feed 27 = .ok (.bipush (-4), 2) := by decide +kernel
theorem dX10_feed_29 : decode cX10_feed 29 = .ok (.ireturn, 1) := by decide +kernel
theorem dX10_feed_30 : decode cX10_feed 30 = .ok (.iconst 0, 1) := by decide +kernel
theorem dX10_feed_31 : decode cX10_feed 31 = .ok (.istore 4, 2) := by decide +kernel
theorem dX10_feed_33 : decode cX10_feed 33 = .ok (.iload 4, 2) := by decide +kernel
theorem dX10_feed_35 : decode cX10_feed 35 = .ok (.iload_n 1, 1) := by decide +kernel
theorem dX10_feed_36 : decode cX10_feed 36 = .ok (.if_icmp .ge 40, 3) := by decide +kernel
theorem dX10_feed_39 : decode cX10_feed 39 = .ok (.aload_n 0, 1) := by decide +kernel
theorem dX10_feed_40 : decode cX10_feed 40 = .ok (.getfield 20, 3) := by decide +kernel
theorem dX10_feed_43 : decode cX10_feed 43 = .ok (.aload_n 0, 1) := by decide +kernel
theorem dX10_feed_44 : decode cX10_feed 44 = .ok (.getfield 240, 3) := by decide +kernel
theorem dX10_feed_47 : decode cX10_feed 47 = .ok (.lload_n 2, 1) := by decide +kernel
theorem dX10_feed_48 : decode cX10_feed 48 = .ok (.bipush 8, 2) := by decide +kernel
theorem dX10_feed_50 : decode cX10_feed 50 = .ok (.iload 4, 2) := by decide +kernel
theorem dX10_feed_52 : decode cX10_feed 52 = .ok (.imul, 1) := by decide +kernel
theorem dX10_feed_53 : decode cX10_feed 53 = .ok (.lshr, 1) := by decide +kernel
theorem dX10_feed_54 : decode cX10_feed 54 = .ok (.ldc2_w 144, 3) := by decide +kernel
theorem dX10_feed_57 : decode cX10_feed 57 = .ok (.land, 1) := by decide +kernel
theorem dX10_feed_58 : decode cX10_feed 58 = .ok (.l2i, 1) := by decide +kernel
theorem dX10_feed_59 : decode cX10_feed 59 = .ok (.iastore, 1) := by decide +kernel
theorem dX10_feed_60 : decode cX10_feed 60 = .ok (.aload_n 0, 1) := by decide +kernel
theorem dX10_feed_61 : decode cX10_feed 61 = .ok (.dup, 1) := by decide +kernel
theorem dX10_feed_62 : decode cX10_feed 62 = .ok (.getfield 240, 3) := by decide +kernel
theorem dX10_feed_65 : decode cX10_feed 65 = .ok (.iconst 1, 1) := by decide +kernel
theorem dX10_feed_66 : decode cX10_feed 66 = .ok (.iadd, 1) := by decide +kernel
theorem dX10_feed_67 : decode cX10_feed 67 = .ok (.putfield 240, 3) := by decide +kernel
theorem dX10_feed_70 : decode cX10_feed 70 = .ok (.iinc 4 1, 3) := by decide +kernel
theorem dX10_feed_73 : decode cX10_feed 73 = .ok (.goto (-40), 3) := by decide +kernel
theorem dX10_feed_76 : decode cX10_feed 76 = .ok (.aload_n 0, 1) := by decide +kernel
theorem dX10_feed_77 : decode cX10_feed 77 = .ok (.getfield 240, 3) := by decide +kernel
theorem dX10_feed_80 : decode cX10_feed 80 = .ok (.ireturn, 1) := by decide +kernel
theorem dX10_byteAt_0 : decode cX10_byteAt 0 = .ok (.iload_n 1, 1) := by decide +kernel
theorem dX10_byteAt_1 : decode cX10_byteAt 1 = .ok (.aload_n 0, 1) := by decide +kernel
theorem dX10_byteAt_2 : decode cX10_byteAt 2 = .ok (.getfield 243, 3) := by decide +kernel
theorem dX10_byteAt_5 : decode cX10_byteAt 5 = .ok (.if_icmp .ge 17, 3) := by decide +kernel
theorem dX10_byteAt_8 : decode cX10_byteAt 8 = .ok (.aload_n 0, 1) := by decide +kernel
theorem dX10_byteAt_9 : decode cX10_byteAt 9 = .ok (.getfield 13, 3) := by decide +kernel
theorem dX10_byteAt_12 : decode cX10_byteAt 12 = .ok (.aload_n 0, 1) := by decide +kernel
theorem dX10_byteAt_13 : decode cX10_byteAt 13 = .ok (.getfield 246, 3) := by decide +kernel
theorem dX10_byteAt_16 : decode cX10_byteAt 16 = .ok (.iload_n 1, 1) := by decide +kernel
theorem dX10_byteAt_17 : decode cX10_byteAt 17 = .ok (.iadd, 1) := by decide +kernel
theorem dX10_byteAt_18 : decode cX10_byteAt 18 = .ok (.iaload, 1) := by decide +kernel
theorem dX10_byteAt_19 : decode cX10_byteAt 19 = .ok (.goto 4, 3) := by decide +kernel
theorem dX10_byteAt_22 : decode cX10_byteAt 22 = .ok (.iconst (-1), 1) := by decide +kernel
theorem dX10_byteAt_23 : decode cX10_byteAt 23 = .ok (.ireturn, 1) := by decide +kernel
theorem dX10_next_0 : decode cX10_next 0 = .ok (.aload_n 0, 1) := by decide +kernel
theorem dX10_next_1 : decode cX10_next 1 = .ok (.aload_n 0, 1) := by decide +kernel
theorem dX10_next_2 : decode cX10_next 2 = .ok (.getfield 249, 3) := by decide +kernel
theorem dX10_next_5 : decode cX10_next 5 = .ok (.invokevirtual 252, 3) := by decide +kernel
theorem dX10_next_8 : decode cX10_next 8 = .ok (.bipush 32, 2) := by decide +kernel
theorem dX10_next_10 : decode cX10_next 10 = .ok (.if_icmp .eq 16, 3) := by decide +kernel
theorem dX10_next_13 : decode cX10_next 13 = .ok (.aload_n 0, 1) := by decide +kernel
theorem dX10_next_14 : decode cX10_next 14 = .ok (.aload_n 0, 1) := by decide +kernel
theorem dX10_next_15 : decode cX10_next 15 = .ok (.getfield 249, 3) := by decide +kernel
theorem dX10_next_18 : decode cX10_next 18 = .ok (.invokevirtual 252, 3) := by decide +kernel
theorem dX10_next_21 : decode cX10_next 21 = .ok (.bipush 10, 2) := by decide +kernel
theorem dX10_next_23 : decode cX10_next 23 = .ok (.if_icmp .ne 16, 3) := by decide +kernel
theorem dX10_next_26 : decode cX10_next 26 = .ok (.aload_n 0, 1) := by decide +kernel
theorem dX10_next_27 : decode cX10_next 27 = .ok (.dup, 1) := by decide +kernel
theorem dX10_next_28 : decode cX10_next 28 = .ok (.getfield 249, 3) := by decide +kernel
theorem dX10_next_31 : decode cX10_next 31 = .ok (.iconst 1, 1) := by decide +kernel
theorem dX10_next_32 : decode cX10_next 32 = .ok (.iadd, 1) := by decide +kernel
theorem dX10_next_33 : decode cX10_next 33 = .ok (.putfield 249, 3) := by decide +kernel
theorem dX10_next_36 : decode cX10_next 36 = .ok (.goto (-36), 3) := by decide +kernel
theorem dX10_next_39 : decode cX10_next 39 = .ok (.aload_n 0, 1) := by decide +kernel
theorem dX10_next_40 : decode cX10_next 40 = .ok (.aload_n 0, 1) := by decide +kernel
theorem dX10_next_41 : decode cX10_next 41 = .ok (.getfield 249, 3) := by decide +kernel
theorem dX10_next_44 : decode cX10_next 44 = .ok (.putfield 255, 3) := by decide +kernel
theorem dX10_next_47 : decode cX10_next 47 = .ok (.aload_n 0, 1) := by decide +kernel
theorem dX10_next_48 : decode cX10_next 48 = .ok (.aload_n 0, 1) := by decide +kernel
theorem dX10_next_49 : decode cX10_next 49 = .ok (.getfield 249, 3) := by decide +kernel
theorem dX10_next_52 : decode cX10_next 52 = .ok (.invokevirtual 252, 3) := by decide +kernel
theorem dX10_next_55 : decode cX10_next 55 = .ok (.istore_n 1, 1) := by decide +kernel
theorem dX10_next_56 : decode cX10_next 56 = .ok (.aload_n 0, 1) := by decide +kernel
theorem dX10_next_57 : decode cX10_next 57 = .ok (.iconst 4, 1) := by decide +kernel
theorem dX10_next_58 : decode cX10_next 58 = .ok (.putfield 258, 3) := by decide +kernel
theorem dX10_next_61 : decode cX10_next 61 = .ok (.iload_n 1, 1) := by decide +kernel
theorem dX10_next_62 : decode cX10_next 62 = .ok (.ifCond .ge 19, 3) := by decide +kernel
theorem dX10_next_65 : decode cX10_next 65 = .ok (.aload_n 0, 1) := by decide +kernel
theorem dX10_next_66 : decode cX10_next 66 = .ok (.iconst 0, 1) := by decide +kernel
theorem dX10_next_67 : decode cX10_next 67 = .ok (.putfield 258, 3) := by decide +kernel
theorem dX10_next_70 : decode cX10_next 70 = .ok (.aload_n 0, 1) := by decide +kernel
theorem dX10_next_71 : decode cX10_next 71 = .ok (.aload_n 0, 1) := by decide +kernel
theorem dX10_next_72 : decode cX10_next 72 = .ok (.getfield 243, 3) := by decide +kernel
theorem dX10_next_75 : decode cX10_next 75 = .ok (.putfield 255, 3) := by decide +kernel
theorem dX10_next_78 : decode cX10_next 78 = .ok (.goto 294, 3) := by decide +kernel
theorem dX10_next_81 : decode cX10_next 81 = .ok (.iload_n 1, 1) := by decide +kernel
theorem dX10_next_82 : decode cX10_next 82 = .ok (.i2l, 1) := by decide +kernel
theorem dX10_next_83 : decode cX10_next 83 = .ok (.ldc2_w 261, 3) := by decide +kernel
theorem dX10_next_86 : decode cX10_next 86 = .ok (.ldc2_w 263, 3) := by decide +kernel
theorem dX10_next_89 : decode cX10_next 89 = .ok (.invokestatic 149, 3) := by decide +kernel
theorem dX10_next_92 : decode cX10_next 92 = .ok (.ifCond .eq 93, 3) := by decide +kernel
theorem dX10_next_95 : decode cX10_next 95 = .ok (.aload_n 0, 1) := by decide +kernel
theorem dX10_next_96 : decode cX10_next 96 = .ok (.iconst 1, 1) := by decide +kernel
theorem dX10_next_97 : decode cX10_next 97 = .ok (.putfield 258, 3) := by decide +kernel
theorem dX10_next_100 : decode cX10_next 100 = .ok (.aload_n 0, 1) := by decide +kernel
theorem dX10_next_101 : decode cX10_next 101 = .ok (.lconst 0, 1) := by decide +kernel
theorem dX10_next_102 : decode cX10_next 102 = .ok (.putfield 265, 3) := by decide +kernel
theorem dX10_next_105 : decode cX10_next 105 = .ok (.iconst 0, 1) := by decide +kernel
theorem dX10_next_106 : decode cX10_next 106 = .ok (.istore_n 2, 1) := by decide +kernel
theorem dX10_next_107 : decode cX10_next 107 = .ok (.aload_n 0, 1) := by decide +kernel
theorem dX10_next_108 : decode cX10_next 108 = .ok (.aload_n 0, 1) := by decide +kernel
theorem dX10_next_109 : decode cX10_next 109 = .ok (.getfield 249, 3) := by decide +kernel
theorem dX10_next_112 : decode cX10_next 112 = .ok (.invokevirtual 252, 3) := by decide +kernel
theorem dX10_next_115 : decode cX10_next 115 = .ok (.i2l, 1) := by decide +kernel
theorem dX10_next_116 : decode cX10_next 116 = .ok (.ldc2_w 261, 3) := by decide +kernel
theorem dX10_next_119 : decode cX10_next 119 = .ok (.ldc2_w 263, 3) := by decide +kernel
theorem dX10_next_122 : decode cX10_next 122 = .ok (.invokestatic 149, 3) := by decide +kernel
theorem dX10_next_125 : decode cX10_next 125 = .ok (.ifCond .eq 57, 3) := by decide +kernel
theorem dX10_next_128 : decode cX10_next 128 = .ok (.aload_n 0, 1) := by decide +kernel
theorem dX10_next_129 : decode cX10_next 129 = .ok (.iload_n 2, 1) := by decide +kernel
theorem dX10_next_130 : decode cX10_next 130 = .ok (.bipush 8, 2) := by decide +kernel
theorem dX10_next_132 : decode cX10_next 132 = .ok (.if_icmp .ge 28, 3) := by decide +kernel
theorem dX10_next_135 : decode cX10_next 135 = .ok (.ldc2_w 269, 3) := by decide +kernel
theorem dX10_next_138 : decode cX10_next 138 = .ok (.aload_n 0, 1) := by decide +kernel
theorem dX10_next_139 : decode cX10_next 139 = .ok (.getfield 265, 3) := by decide +kernel
theorem dX10_next_142 : decode cX10_next 142 = .ok (.lmul, 1) := by decide +kernel
theorem dX10_next_143 : decode cX10_next 143 = .ok (.aload_n 0, 1) := by decide +kernel
theorem dX10_next_144 : decode cX10_next 144 = .ok (.aload_n 0, 1) := by decide +kernel
theorem dX10_next_145 : decode cX10_next 145 = .ok (.getfield 249, 3) := by decide +kernel
theorem dX10_next_148 : decode cX10_next 148 = .ok (.invokevirtual 252, 3) := by decide +kernel
theorem dX10_next_151 : decode cX10_next 151 = .ok (.i2l, 1) := by decide +kernel
theorem dX10_next_152 : decode cX10_next 152 = .ok (.ladd, 1) := by decide +kernel
theorem dX10_next_153 : decode cX10_next 153 = .ok (.ldc2_w 271, 3) := by decide +kernel
theorem dX10_next_156 : decode cX10_next 156 = .ok (.lsub, 1) := by decide +kernel
theorem dX10_next_157 : decode cX10_next 157 = .ok (.goto 6, 3) := by decide +kernel
theorem dX10_next_160 : decode cX10_next 160 = .ok (.ldc2_w 273, 3) := by decide +kernel
theorem dX10_next_163 : decode cX10_next 163 = .ok (.putfield 265, 3) := by decide +kernel
theorem dX10_next_166 : decode cX10_next 166 = .ok (.iinc 2 1, 3) := by decide +kernel
theorem dX10_next_169 : decode cX10_next 169 = .ok (.aload_n 0, 1) := by decide +kernel
theorem dX10_next_170 : decode cX10_next 170 = .ok (.dup, 1) := by decide +kernel
theorem dX10_next_171 : decode cX10_next 171 = .ok (.getfield 249, 3) := by decide +kernel
theorem dX10_next_174 : decode cX10_next 174 = .ok (.iconst 1, 1) := by decide +kernel
theorem dX10_next_175 : decode cX10_next 175 = .ok (.iadd, 1) := by decide +kernel
theorem dX10_next_176 : decode cX10_next 176 = .ok (.putfield 249, 3) := by decide +kernel
theorem dX10_next_179 : decode cX10_next 179 = .ok (.goto (-72), 3) := by decide +kernel
theorem dX10_next_182 : decode cX10_next 182 = .ok (.goto 190, 3) := by decide +kernel
theorem dX10_next_185 : decode cX10_next 185 = .ok (.iload_n 1, 1) := by decide +kernel
theorem dX10_next_186 : decode cX10_next 186 = .ok (.i2l, 1) := by decide +kernel
theorem dX10_next_187 : decode cX10_next 187 = .ok (.ldc2_w 275, 3) := by decide +kernel
theorem dX10_next_190 : decode cX10_next 190 = .ok (.ldc2_w 277, 3) := by decide +kernel
theorem dX10_next_193 : decode cX10_next 193 = .ok (.invokestatic 149, 3) := by decide +kernel
theorem dX10_next_196 : decode cX10_next 196 = .ok (.ifCond .eq 107, 3) := by decide +kernel
theorem dX10_next_199 : decode cX10_next 199 = .ok (.aload_n 0, 1) := by decide +kernel
theorem dX10_next_200 : decode cX10_next 200 = .ok (.iconst 2, 1) := by decide +kernel
theorem dX10_next_201 : decode cX10_next 201 = .ok (.putfield 258, 3) := by decide +kernel
theorem dX10_next_204 : decode cX10_next 204 = .ok (.aload_n 0, 1) := by decide +kernel
theorem dX10_next_205 : decode cX10_next 205 = .ok (.lconst 0, 1) := by decide +kernel
theorem dX10_next_206 : decode cX10_next 206 = .ok (.putfield 265, 3) := by decide +kernel
theorem dX10_next_209 : decode cX10_next 209 = .ok (.iconst 0, 1) := by decide +kernel
theorem dX10_next_210 : decode cX10_next 210 = .ok (.istore_n 2, 1) := by decide +kernel
theorem dX10_next_211 : decode cX10_next 211 = .ok (.aload_n 0, 1) := by decide +kernel
theorem dX10_next_212 : decode cX10_next 212 = .ok (.aload_n 0, 1) := by decide +kernel
theorem dX10_next_213 : decode cX10_next 213 = .ok (.getfield 249, 3) := by decide +kernel
theorem dX10_next_216 : decode cX10_next 216 = .ok (.invokevirtual 252, 3) := by decide +kernel
theorem dX10_next_219 : decode cX10_next 219 = .ok (.i2l, 1) := by decide +kernel
theorem dX10_next_220 : decode cX10_next 220 = .ok (.ldc2_w 275, 3) := by decide +kernel
theorem dX10_next_223 : decode cX10_next 223 = .ok (.ldc2_w 277, 3) := by decide +kernel
theorem dX10_next_226 : decode cX10_next 226 = .ok (.invokestatic 149, 3) := by decide +kernel
theorem dX10_next_229 : decode cX10_next 229 = .ok (.ifCond .eq 57, 3) := by decide +kernel
theorem dX10_next_232 : decode cX10_next 232 = .ok (.aload_n 0, 1) := by decide +kernel
theorem dX10_next_233 : decode cX10_next 233 = .ok (.iload_n 2, 1) := by decide +kernel
theorem dX10_next_234 : decode cX10_next 234 = .ok (.iconst 4, 1) := by decide +kernel
theorem dX10_next_235 : decode cX10_next 235 = .ok (.if_icmp .ge 28, 3) := by decide +kernel
theorem dX10_next_238 : decode cX10_next 238 = .ok (.ldc2_w 279, 3) := by decide +kernel
theorem dX10_next_241 : decode cX10_next 241 = .ok (.aload_n 0, 1) := by decide +kernel
theorem dX10_next_242 : decode cX10_next 242 = .ok (.getfield 265, 3) := by decide +kernel
theorem dX10_next_245 : decode cX10_next 245 = .ok (.lmul, 1) := by decide +kernel
theorem dX10_next_246 : decode cX10_next 246 = .ok (.aload_n 0, 1) := by decide +kernel
theorem dX10_next_247 : decode cX10_next 247 = .ok (.aload_n 0, 1) := by decide +kernel
theorem dX10_next_248 : decode cX10_next 248 = .ok (.getfield 249, 3) := by decide +kernel
theorem dX10_next_251 : decode cX10_next 251 = .ok (.invokevirtual 252, 3) := by decide +kernel
theorem dX10_next_254 : decode cX10_next 254 = .ok (.i2l, 1) := by decide +kernel
theorem dX10_next_255 : decode cX10_next 255 = .ok (.ladd, 1) := by decide +kernel
theorem dX10_next_256 : decode cX10_next 256 = .ok (.ldc2_w 275, 3) := by decide +kernel
theorem dX10_next_259 : decode cX10_next 259 = .ok (.lsub, 1) := by decide +kernel
theorem dX10_next_260 : decode cX10_next 260 = .ok (.goto 7, 3) := by decide +kernel
theorem dX10_next_263 : decode cX10_next 263 = .ok (.aload_n 0, 1) := by decide +kernel
theorem dX10_next_264 : decode cX10_next 264 = .ok (.getfield 265, 3) := by decide +kernel
theorem dX10_next_267 : decode cX10_next 267 = .ok (.putfield 265, 3) := by decide +kernel
theorem dX10_next_270 : decode cX10_next 270 = .ok (.iinc 2 1, 3) := by decide +kernel
theorem dX10_next_273 : decode cX10_next 273 = .ok (.aload_n 0, 1) := by decide +kernel
theorem dX10_next_274 : decode cX10_next 274 = .ok (.dup, 1) := by decide +kernel
theorem dX10_next_275 : decode cX10_next 275 = .ok (.getfield 249, 3) := by decide +kernel
theorem dX10_next_278 : decode cX10_next 278 = .ok (.iconst 1, 1) := by decide +kernel
theorem dX10_next_279 : decode cX10_next 279 = .ok (.iadd, 1) := by decide +kernel
theorem dX10_next_280 : decode cX10_next 280 = .ok (.putfield 249, 3) := by decide +kernel
theorem dX10_next_283 : decode cX10_next 283 = .ok (.goto (-72), 3) := by decide +kernel
theorem dX10_next_286 : decode cX10_next 286 = .ok (.aload_n 0, 1) := by decide +kernel
theorem dX10_next_287 : decode cX10_next 287 = .ok (.iload_n 2, 1) := by decide +kernel
theorem dX10_next_288 : decode cX10_next 288 = .ok (.iconst 4, 1) := by decide +kernel
theorem dX10_next_289 : decode cX10_next 289 = .ok (.if_icmp .le 7, 3) := by decide +kernel
theorem dX10_next_292 : decode cX10_next 292 = .ok (.iconst 4, 1) := by decide +kernel
theorem dX10_next_293 : decode cX10_next 293 = .ok (.goto 4, 3) := by decide +kernel
theorem dX10_next_296 : decode cX10_next 296 = .ok (.iconst 2, 1) := by decide +kernel
theorem dX10_next_297 : decode cX10_next 297 = .ok (.putfield 258, 3) := by decide +kernel
theorem dX10_next_300 : decode cX10_next 300 = .ok (.goto 72, 3) := by decide +kernel
theorem dX10_next_303 : decode cX10_next 303 = .ok (.iload_n 1, 1) := by decide +kernel
theorem dX10_next_304 : decode cX10_next 304 = .ok (.bipush 40, 2) := by decide +kernel
theorem dX10_next_306 : decode cX10_next 306 = .ok (.if_icmp .eq 45, 3) := by decide +kernel
theorem dX10_next_309 : decode cX10_next 309 = .ok (.iload_n 1, 1) := by decide +kernel
theorem dX10_next_310 : decode cX10_next 310 = .ok (.bipush 41, 2) := by decide +kernel
theorem dX10_next_312 : decode cX10_next 312 = .ok (.if_icmp .eq 39, 3) := by decide +kernel
theorem dX10_next_315 : decode cX10_next 315 = .ok (.iload_n 1, 1) := by decide +kernel
theorem dX10_next_316 : decode cX10_next 316 = .ok (.bipush 59, 2) := by decide +kernel
theorem dX10_next_318 : decode cX10_next 318 = .ok (.if_icmp .eq 33, 3) := by decide +kernel
theorem dX10_next_321 : decode cX10_next 321 = .ok (.iload_n 1, 1) := by decide +kernel
theorem dX10_next_322 : decode cX10_next 322 = .ok (.bipush 43, 2) := by decide +kernel
theorem dX10_next_324 : decode cX10_next 324 = .ok (.if_icmp .eq 27, 3) := by decide +kernel
theorem dX10_next_327 : decode cX10_next 327 = .ok (.iload_n 1, 1) := by decide +kernel
theorem dX10_next_328 : decode cX10_next 328 = .ok (.bipush 45, 2) := by decide +kernel
theorem dX10_next_330 : decode cX10_next 330 = .ok (.if_icmp .eq 21, 3) := by decide +kernel
theorem dX10_next_333 : decode cX10_next 333 = .ok (.iload_n 1, 1) := by decide +kernel
theorem dX10_next_334 : decode cX10_next 334 = .ok (.bipush 42, 2) := by decide +kernel
theorem dX10_next_336 : decode cX10_next 336 = .ok (.if_icmp .eq 15, 3) := by decide +kernel
theorem dX10_next_339 : decode cX10_next 339 = .ok (.iload_n 1, 1) := by decide +kernel
theorem dX10_next_340 : decode cX10_next 340 = .ok (.bipush 60, 2) := by decide +kernel
theorem dX10_next_342 : decode cX10_next 342 = .ok (.if_icmp .eq 9, 3) := by decide +kernel
theorem dX10_next_345 : decode cX10_next 345 = .ok (.iload_n 1, 1) := by decide +kernel
theorem dX10_next_346 : decode cX10_next 346 = .ok (.bipush 61, 2) := by decide +kernel
theorem dX10_next_348 : decode cX10_next 348 = .ok (.if_icmp .ne 24, 3) := by decide +kernel
theorem dX10_next_351 : decode cX10_next 351 = .ok (.aload_n 0, 1) := by decide +kernel
theorem dX10_next_352 : decode cX10_next 352 = .ok (.iconst 3, 1) := by decide +kernel
theorem dX10_next_353 : decode cX10_next 353 = .ok (.putfield 258, 3) := by decide +kernel
theorem dX10_next_356 : decode cX10_next 356 = .ok (.aload_n 0, 1) := by decide +kernel
theorem dX10_next_357 : decode cX10_next 357 = .ok (.iload_n 1, 1) := by decide +kernel
theorem dX10_next_358 : decode cX10_next 358 = .ok (.i2l, 1) := by decide +kernel
theorem dX10_next_359 : decode cX10_next 359 = .ok (.putfield 265, 3) := by decide +kernel
theorem dX10_next_362 : decode cX10_next 362 = .ok (.aload_n 0, 1) := by decide +kernel
theorem dX10_next_363 : decode cX10_next 363 = .ok (.dup, 1) := by decide +kernel
theorem dX10_next_364 : decode cX10_next 364 = .ok (.getfield 249, 3) := by decide +kernel
theorem dX10_next_367 : decode cX10_next 367 = .ok (.iconst 1, 1) := by decide +kernel
theorem dX10_next_368 : decode cX10_next 368 = .ok (.iadd, 1) := by decide +kernel
theorem dX10_next_369 : decode cX10_next 369 = .ok (.putfield 249, 3) := by decide +kernel
theorem dX10_next_372 : decode cX10_next 372 = .ok (.return_, 1) := by decide +kernel
theorem dX10_fail_0 : decode cX10_fail 0 = .ok (.aload_n 0, 1) := by decide +kernel
theorem dX10_fail_1 : decode cX10_fail 1 = .ok (.getfield 281, 3) := by decide +kernel
theorem dX10_fail_4 : decode cX10_fail 4 = .ok (.ifCond .ne 16, 3) := by decide +kernel
theorem dX10_fail_7 : decode cX10_fail 7 = .ok (.aload_n 0, 1) := by decide +kernel
theorem dX10_fail_8 : decode cX10_fail 8 = .ok (.iconst 1, 1) := by decide +kernel
theorem dX10_fail_9 : decode cX10_fail 9 = .ok (.putfield 281, 3) := by decide +kernel
theorem dX10_fail_12 : decode cX10_fail 12 = .ok (.aload_n 0, 1) := by decide +kernel
theorem dX10_fail_13 : decode cX10_fail 13 = .ok (.aload_n 0, 1) := by decide +kernel
theorem dX10_fail_14 : decode cX10_fail 14 = .ok (.getfield 255, 3) := by decide +kernel
theorem dX10_fail_17 : decode cX10_fail 17 = .ok (.putfield 285, 3) := by decide +kernel
theorem dX10_fail_20 : decode cX10_fail 20 = .ok (.return_, 1) := by decide +kernel
theorem dX10_isWord_0 : decode cX10_isWord 0 = .ok (.aload_n 0, 1) := by decide +kernel
theorem dX10_isWord_1 : decode cX10_isWord 1 = .ok (.getfield 281, 3) := by decide +kernel
theorem dX10_isWord_4 : decode cX10_isWord 4 = .ok (.ifCond .ne 24, 3) := by decide +kernel
theorem dX10_isWord_7 : decode cX10_isWord 7 = .ok (.aload_n 0, 1) := by decide +kernel
theorem dX10_isWord_8 : decode cX10_isWord 8 = .ok (.getfield 258, 3) := by decide +kernel
theorem dX10_isWord_11 : decode cX10_isWord 11 = .ok (.iconst 1, 1) := by decide +kernel
theorem dX10_isWord_12 : decode cX10_isWord 12 = .ok (.if_icmp .ne 16, 3) := by decide +kernel
theorem dX10_isWord_15 : decode cX10_isWord 15 = .ok (.aload_n 0, 1) := by decide +kernel
theorem dX10_isWord_16 : decode cX10_isWord 16 = .ok (.getfield 265, 3) := by decide +kernel
theorem dX10_isWord_19 : decode cX10_isWord 19 = .ok (.lload_n 1, 1) := by decide +kernel
theorem dX10_isWord_20 : decode cX10_isWord 20 = .ok (.lcmp, 1) := by decide +kernel
theorem dX10_isWord_21 : decode cX10_isWord 21 = .ok (.ifCond .ne 7, 3) := by decide +kernel
theorem dX10_isWord_24 : decode cX10_isWord 24 = .ok (.iconst 1, 1) := by decide +kernel
theorem dX10_isWord_25 : decode cX10_isWord 25 = .ok (.goto 4, 3) := by decide +kernel
theorem dX10_isWord_28 : decode cX10_isWord 28 = .ok (.iconst 0, 1) := by decide +kernel
theorem dX10_isWord_29 : decode cX10_isWord 29 = .ok (.ireturn, 1) := by decide +kernel
theorem dX10_isSign_0 : decode cX10_isSign 0 = .ok (.aload_n 0, 1) := by decide +kernel
theorem dX10_isSign_1 : decode cX10_isSign 1 = .ok (.getfield 281, 3) := by decide +kernel
theorem dX10_isSign_4 : decode cX10_isSign 4 = .ok (.ifCond .ne 25, 3) := by decide +kernel
theorem dX10_isSign_7 : decode cX10_isSign 7 = .ok (.aload_n 0, 1) := by decide +kernel
theorem dX10_isSign_8 : decode cX10_isSign 8 = .ok (.getfield 258, 3) := by decide +kernel
theorem dX10_isSign_11 : decode cX10_isSign 11 = .ok (.iconst 3, 1) := by decide +kernel
theorem dX10_isSign_12 : decode cX10_isSign 12 = .ok (.if_icmp .ne 17, 3) := by decide +kernel
theorem dX10_isSign_15 : decode cX10_isSign 15 = .ok (.aload_n 0, 1) := by decide +kernel
theorem dX10_isSign_16 : decode cX10_isSign 16 = .ok (.getfield 265, 3) := by decide +kernel
theorem dX10_isSign_19 : decode cX10_isSign 19 = .ok (.iload_n 1, 1) := by decide +kernel
theorem dX10_isSign_20 : decode cX10_isSign 20 = .ok (.i2l, 1) := by decide +kernel
theorem dX10_isSign_21 : decode cX10_isSign 21 = .ok (.lcmp, 1) := by decide +kernel
theorem dX10_isSign_22 : decode cX10_isSign 22 = .ok (.ifCond .ne 7, 3) := by decide +kernel
theorem dX10_isSign_25 : decode cX10_isSign 25 = .ok (.iconst 1, 1) := by decide +kernel
theorem dX10_isSign_26 : decode cX10_isSign 26 = .ok (.goto 4, 3) := by decide +kernel
theorem dX10_isSign_29 : decode cX10_isSign 29 = .ok (.iconst 0, 1) := by decide +kernel
theorem dX10_isSign_30 : decode cX10_isSign 30 = .ok (.ireturn, 1) := by decide +kernel
theorem dX10_opens_0 : decode cX10_opens 0 = .ok (.aload_n 0, 1) := by decide +kernel
theorem dX10_opens_1 : decode cX10_opens 1 = .ok (.getfield 288, 3) := by decide +kernel
theorem dX10_opens_4 : decode cX10_opens 4 = .ok (.iconst 5, 1) := by decide +kernel
theorem dX10_opens_5 : decode cX10_opens 5 = .ok (.if_icmp .ne 9, 3) := by decide +kernel
theorem dX10_opens_8 : decode cX10_opens 8 = .ok (.aload_n 0, 1) := by decide +kernel
theorem dX10_opens_9 : decode cX10_opens 9 = .ok (.invokevirtual 291, 3) := by decide +kernel
theorem dX10_opens_12 : decode cX10_opens 12 = .ok (.iconst 0, 1) := by decide +kernel
theorem dX10_opens_13 : decode cX10_opens 13 = .ok (.ireturn, 1) := by decide +kernel
theorem dX10_opens_14 : decode cX10_opens 14 = .ok (.aload_n 0, 1) := by decide +kernel
theorem dX10_opens_15 : decode cX10_opens 15 = .ok (.dup, 1) := by decide +kernel
theorem dX10_opens_16 : decode cX10_opens 16 = .ok (.getfield 288, 3) := by decide +kernel
theorem dX10_opens_19 : decode cX10_opens 19 = .ok (.iconst 1, 1) := by decide +kernel
theorem dX10_opens_20 : decode cX10_opens 20 = .ok (.iadd, 1) := by decide +kernel
theorem dX10_opens_21 : decode cX10_opens 21 = .ok (.putfield 288, 3) := by decide +kernel
theorem dX10_opens_24 : decode cX10_opens 24 = .ok (.aload_n 0, 1) := by decide +kernel
theorem dX10_opens_25 : decode cX10_opens 25 = .ok (.invokevirtual 294, 3) := by decide +kernel
theorem dX10_opens_28 : decode cX10_opens 28 = .ok (.iconst 1, 1) := by decide +kernel
theorem dX10_opens_29 : decode cX10_opens 29 = .ok (.ireturn, 1) := by decide +kernel
theorem dX10_name_0 : decode cX10_name 0 = .ok (.aload_n 0, 1) := by decide +kernel
theorem dX10_name_1 : decode cX10_name 1 = .ok (.ldc2_w 297, 3) := by decide +kernel
theorem dX10_name_4 : decode cX10_name 4 = .ok (.invokevirtual 299, 3) := by decide +kernel
theorem dX10_name_7 : decode cX10_name 7 = .ok (.ifCond .eq 8, 3) := by decide +kernel
theorem dX10_name_10 : decode cX10_name 10 = .ok (.aload_n 0, 1) := by decide +kernel
theorem dX10_name_11 : decode cX10_name 11 = .ok (.getfield 303, 3) := by decide +kernel
theorem dX10_name_14 : decode cX10_name 14 = .ok (.ireturn, 1) := by decide +kernel
theorem dX10_name_15 : decode cX10_name 15 = .ok (.aload_n 0, 1) := by decide +kernel
theorem dX10_name_16 : decode cX10_name 16 = .ok (.ldc2_w 306, 3) := by decide +kernel
theorem dX10_name_19 : decode cX10_name 19 = .ok (.invokevirtual 299, 3) := by decide +kernel
theorem dX10_name_22 : decode cX10_name 22 = .ok (.ifCond .eq 8, 3) := by decide +kernel
theorem dX10_name_25 : decode cX10_name 25 = .ok (.aload_n 0, 1) := by decide +kernel
theorem dX10_name_26 : decode cX10_name 26 = .ok (.getfield 308, 3) := by decide +kernel
theorem dX10_name_29 : decode cX10_name 29 = .ok (.ireturn, 1) := by decide +kernel
theorem dX10_name_30 : decode cX10_name 30 = .ok (.aload_n 0, 1) := by decide +kernel
theorem dX10_name_31 : decode cX10_name 31 = .ok (.ldc2_w 311, 3) := by decide +kernel
theorem dX10_name_34 : decode cX10_name 34 = .ok (.invokevirtual 299, 3) := by decide +kernel
theorem dX10_name_37 : decode cX10_name 37 = .ok (.ifCond .eq 8, 3) := by decide +kernel
theorem dX10_name_40 : decode cX10_name 40 = .ok (.aload_n 0, 1) := by decide +kernel
theorem dX10_name_41 : decode cX10_name 41 = .ok (.getfield 313, 3) := by decide +kernel
theorem dX10_name_44 : decode cX10_name 44 = .ok (.ireturn, 1) := by decide +kernel
theorem dX10_name_45 : decode cX10_name 45 = .ok (.aload_n 0, 1) := by decide +kernel
theorem dX10_name_46 : decode cX10_name 46 = .ok (.ldc2_w 316, 3) := by decide +kernel
theorem dX10_name_49 : decode cX10_name 49 = .ok (.invokevirtual 299, 3) := by decide +kernel
theorem dX10_name_52 : decode cX10_name 52 = .ok (.ifCond .eq 8, 3) := by decide +kernel
theorem dX10_name_55 : decode cX10_name 55 = .ok (.aload_n 0, 1) := by decide +kernel
theorem dX10_name_56 : decode cX10_name 56 = .ok (.getfield 318, 3) := by decide +kernel
theorem dX10_name_59 : decode cX10_name 59 = .ok (.ireturn, 1) := by decide +kernel
theorem dX10_name_60 : decode cX10_name 60 = .ok (.aload_n 0, 1) := by decide +kernel
theorem dX10_name_61 : decode cX10_name 61 = .ok (.ldc2_w 321, 3) := by decide +kernel
theorem dX10_name_64 : decode cX10_name 64 = .ok (.invokevirtual 299, 3) := by decide +kernel
theorem dX10_name_67 : decode cX10_name 67 = .ok (.ifCond .eq 8, 3) := by decide +kernel
theorem dX10_name_70 : decode cX10_name 70 = .ok (.aload_n 0, 1) := by decide +kernel
theorem dX10_name_71 : decode cX10_name 71 = .ok (.getfield 323, 3) := by decide +kernel
theorem dX10_name_74 : decode cX10_name 74 = .ok (.ireturn, 1) := by decide +kernel
theorem dX10_name_75 : decode cX10_name 75 = .ok (.aload_n 0, 1) := by decide +kernel
theorem dX10_name_76 : decode cX10_name 76 = .ok (.ldc2_w 326, 3) := by decide +kernel
theorem dX10_name_79 : decode cX10_name 79 = .ok (.invokevirtual 299, 3) := by decide +kernel
theorem dX10_name_82 : decode cX10_name 82 = .ok (.ifCond .eq 8, 3) := by decide +kernel
theorem dX10_name_85 : decode cX10_name 85 = .ok (.aload_n 0, 1) := by decide +kernel
theorem dX10_name_86 : decode cX10_name 86 = .ok (.getfield 328, 3) := by decide +kernel
theorem dX10_name_89 : decode cX10_name 89 = .ok (.ireturn, 1) := by decide +kernel
theorem dX10_name_90 : decode cX10_name 90 = .ok (.aload_n 0, 1) := by decide +kernel
theorem dX10_name_91 : decode cX10_name 91 = .ok (.invokevirtual 291, 3) := by decide +kernel
theorem dX10_name_94 : decode cX10_name 94 = .ok (.iconst 0, 1) := by decide +kernel
theorem dX10_name_95 : decode cX10_name 95 = .ok (.ireturn, 1) := by decide +kernel
theorem dX10_one_0 : decode cX10_one 0 = .ok (.iconst 0, 1) := by decide +kernel
theorem dX10_one_1 : decode cX10_one 1 = .ok (.istore_n 1, 1) := by decide +kernel
theorem dX10_one_2 : decode cX10_one 2 = .ok (.aload_n 0, 1) := by decide +kernel
theorem dX10_one_3 : decode cX10_one 3 = .ok (.bipush 45, 2) := by decide +kernel
theorem dX10_one_5 : decode cX10_one 5 = .ok (.invokevirtual 331, 3) := by decide +kernel
theorem dX10_one_8 : decode cX10_one 8 = .ok (.ifCond .eq 29, 3) := by decide +kernel
theorem dX10_one_11 : decode cX10_one 11 = .ok (.aload_n 0, 1) := by decide +kernel
theorem dX10_one_12 : decode cX10_one 12 = .ok (.invokevirtual 334, 3) := by decide +kernel
theorem dX10_one_15 : decode cX10_one 15 = .ok (.ifCond .eq 146, 3) := by decide +kernel
theorem dX10_one_18 : decode cX10_one 18 = .ok (.aload_n 0, 1) := by decide +kernel
theorem dX10_one_19 : decode cX10_one 19 = .ok (.invokevirtual 337, 3) := by decide +kernel
theorem dX10_one_22 : decode cX10_one 22 = .ok (.ineg, 1) := by decide +kernel
theorem dX10_one_23 : decode cX10_one 23 = .ok (.istore_n 1, 1) := by decide +kernel
theorem dX10_one_24 : decode cX10_one 24 = .ok (.aload_n 0, 1) := by decide +kernel
theorem dX10_one_25 : decode cX10_one 25 = .ok (.dup, 1) := by decide +kernel
theorem dX10_one_26 : decode cX10_one 26 = .ok (.getfield 288, 3) := by decide +kernel
theorem dX10_one_29 : decode cX10_one 29 = .ok (.iconst 1, 1) := by decide +kernel
theorem dX10_one_30 : decode cX10_one 30 = .ok (.isub, 1) := by decide +kernel
theorem dX10_one_31 : decode cX10_one 31 = .ok (.putfield 288, 3) := by decide +kernel
theorem dX10_one_34 : decode cX10_one 34 = .ok (.goto 127, 3) := by decide +kernel
theorem dX10_one_37 : decode cX10_one 37 = .ok (.aload_n 0, 1) := by decide +kernel
theorem dX10_one_38 : decode cX10_one 38 = .ok (.bipush 40, 2) := by decide +kernel
theorem dX10_one_40 : decode cX10_one 40 = .ok (.invokevirtual 331, 3) := by decide +kernel
theorem dX10_one_43 : decode cX10_one 43 = .ok (.ifCond .eq 52, 3) := by decide +kernel
theorem dX10_one_46 : decode cX10_one 46 = .ok (.aload_n 0, 1) := by decide +kernel
theorem dX10_one_47 : decode cX10_one 47 = .ok (.invokevirtual 334, 3) := by decide +kernel
theorem dX10_one_50 : decode cX10_one 50 = .ok (.ifCond .eq 111, 3) := by decide +kernel
theorem dX10_one_53 : decode cX10_one 53 = .ok (.aload_n 0, 1) := by decide +kernel
theorem dX10_one_54 : decode cX10_one 54 = .ok (.invokevirtual 341, 3) := by decide +kernel
theorem dX10_one_57 : decode cX10_one 57 = .ok (.istore_n 1, 1) := by decide +kernel
theorem dX10_one_58 : decode cX10_one 58 = .ok (.aload_n 0, 1) := by decide +kernel
theorem dX10_one_59 : decode cX10_one 59 = .ok (.bipush 41, 2) := by decide +kernel
theorem dX10_one_61 : decode cX10_one 61 = .ok (.invokevirtual 331, 3) := by decide +kernel
theorem dX10_one_64 : decode cX10_one 64 = .ok (.ifCond .ne 7, 3) := by decide +kernel
theorem dX10_one_67 : decode cX10_one 67 = .ok (.aload_n 0, 1) := by decide +kernel
theorem dX10_one_68 : decode cX10_one 68 = .ok (.invokevirtual 291, 3) := by decide +kernel
theorem dX10_one_71 : decode cX10_one 71 = .ok (.aload_n 0, 1) := by decide +kernel
theorem dX10_one_72 : decode cX10_one 72 = .ok (.dup, 1) := by decide +kernel
theorem dX10_one_73 : decode cX10_one 73 = .ok (.getfield 288, 3) := by decide +kernel
theorem dX10_one_76 : decode cX10_one 76 = .ok (.iconst 1, 1) := by decide +kernel
theorem dX10_one_77 : decode cX10_one 77 = .ok (.isub, 1) := by decide +kernel
theorem dX10_one_78 : decode cX10_one 78 = .ok (.putfield 288, 3) := by decide +kernel
theorem dX10_one_81 : decode cX10_one 81 = .ok (.aload_n 0, 1) := by decide +kernel
theorem dX10_one_82 : decode cX10_one 82 = .ok (.getfield 281, 3) := by decide +kernel
theorem dX10_one_85 : decode cX10_one 85 = .ok (.ifCond .ne 76, 3) := by decide +kernel
theorem dX10_one_88 : decode cX10_one 88 = .ok (.aload_n 0, 1) := by decide +kernel
theorem dX10_one_89 : decode cX10_one 89 = .ok (.invokevirtual 294, 3) := by decide +kernel
theorem dX10_one_92 : decode cX10_one 92 = .ok (.goto 69, 3) := by decide +kernel
theorem dX10_one_95 : decode cX10_one 95 = .ok (.aload_n 0, 1) := by decide +kernel
theorem dX10_one_96 : decode cX10_one 96 = .ok (.getfield 281, 3) := by decide +kernel
theorem dX10_one_99 : decode cX10_one 99 = .ok (.ifCond .ne 24, 3) := by decide +kernel
theorem dX10_one_102 : decode cX10_one 102 = .ok (.aload_n 0, 1) := by decide +kernel
theorem dX10_one_103 : decode cX10_one 103 = .ok (.getfield 258, 3) := by decide +kernel
theorem dX10_one_106 : decode cX10_one 106 = .ok (.iconst 2, 1) := by decide +kernel
theorem dX10_one_107 : decode cX10_one 107 = .ok (.if_icmp .ne 16, 3) := by decide +kernel
theorem dX10_one_110 : decode cX10_one 110 = .ok (.aload_n 0, 1) := by decide +kernel
theorem dX10_one_111 : decode cX10_one 111 = .ok (.getfield 265, 3) := by decide +kernel
theorem dX10_one_114 : decode cX10_one 114 = .ok (.l2i, 1) := by decide +kernel
theorem dX10_one_115 : decode cX10_one 115 = .ok (.istore_n 1, 1) := by decide +kernel
theorem dX10_one_116 : decode cX10_one 116 = .ok (.aload_n 0, 1) := by decide +kernel
theorem dX10_one_117 : decode cX10_one 117 = .ok (.invokevirtual 294, 3) := by decide +kernel
theorem dX10_one_120 : decode cX10_one 120 = .ok (.goto 41, 3) := by decide +kernel
theorem dX10_one_123 : decode cX10_one 123 = .ok (.aload_n 0, 1) := by decide +kernel
theorem dX10_one_124 : decode cX10_one 124 = .ok (.getfield 281, 3) := by decide +kernel
theorem dX10_one_127 : decode cX10_one 127 = .ok (.ifCond .ne 30, 3) := by decide +kernel
theorem dX10_one_130 : decode cX10_one 130 = .ok (.aload_n 0, 1) := by decide +kernel
theorem dX10_one_131 : decode cX10_one 131 = .ok (.getfield 258, 3) := by decide +kernel
theorem dX10_one_134 : decode cX10_one 134 = .ok (.iconst 1, 1) := by decide +kernel
theorem dX10_one_135 : decode cX10_one 135 = .ok (.if_icmp .ne 22, 3) := by decide +kernel
theorem dX10_one_138 : decode cX10_one 138 = .ok (.aload_n 0, 1) := by decide +kernel
theorem dX10_one_139 : decode cX10_one 139 = .ok (.invokevirtual 344, 3) := by decide +kernel
theorem dX10_one_142 : decode cX10_one 142 = .ok (.istore_n 1, 1) := by decide +kernel
theorem dX10_one_143 : decode cX10_one 143 = .ok (.aload_n 0, 1) := by decide +kernel
theorem dX10_one_144 : decode cX10_one 144 = .ok (.getfield 281, 3) := by decide +kernel
theorem dX10_one_147 : decode cX10_one 147 = .ok (.ifCond .ne 14, 3) := by decide +kernel
theorem dX10_one_150 : decode cX10_one 150 = .ok (.aload_n 0, 1) := by decide +kernel
theorem dX10_one_151 : decode cX10_one 151 = .ok (.invokevirtual 294, 3) := by decide +kernel
theorem dX10_one_154 : decode cX10_one 154 = .ok (.goto 7, 3) := by decide +kernel
theorem dX10_one_157 : decode cX10_one 157 = .ok (.aload_n 0, 1) := by decide +kernel
theorem dX10_one_158 : decode cX10_one 158 = .ok (.invokevirtual 291, 3) := by decide +kernel
theorem dX10_one_161 : decode cX10_one 161 = .ok (.iload_n 1, 1) := by decide +kernel
theorem dX10_one_162 : decode cX10_one 162 = .ok (.ireturn, 1) := by decide +kernel
theorem dX10_term_0 : decode cX10_term 0 = .ok (.aload_n 0, 1) := by decide +kernel
theorem dX10_term_1 : decode cX10_term 1 = .ok (.invokevirtual 337, 3) := by decide +kernel
theorem dX10_term_4 : decode cX10_term 4 = .ok (.istore_n 1, 1) := by decide +kernel
theorem dX10_term_5 : decode cX10_term 5 = .ok (.aload_n 0, 1) := by decide +kernel
theorem dX10_term_6 : decode cX10_term 6 = .ok (.bipush 42, 2) := by decide +kernel
theorem dX10_term_8 : decode cX10_term 8 = .ok (.invokevirtual 331, 3) := by decide +kernel
theorem dX10_term_11 : decode cX10_term 11 = .ok (.ifCond .eq 17, 3) := by decide +kernel
theorem dX10_term_14 : decode cX10_term 14 = .ok (.aload_n 0, 1) := by decide +kernel
theorem dX10_term_15 : decode cX10_term 15 = .ok (.invokevirtual 294, 3) := by decide +kernel
theorem dX10_term_18 : decode cX10_term 18 = .ok (.iload_n 1, 1) := by decide +kernel
theorem dX10_term_19 : decode cX10_term 19 = .ok (.aload_n 0, 1) := by decide +kernel
theorem dX10_term_20 : decode cX10_term 20 = .ok (.invokevirtual 337, 3) := by decide +kernel
theorem dX10_term_23 : decode cX10_term 23 = .ok (.imul, 1) := by decide +kernel
theorem dX10_term_24 : decode cX10_term 24 = .ok (.istore_n 1, 1) := by decide +kernel
theorem dX10_term_25 : decode cX10_term 25 = .ok (.goto (-20), 3) := by decide +kernel
theorem dX10_term_28 : decode cX10_term 28 = .ok (.iload_n 1, 1) := by decide +kernel
theorem dX10_term_29 : decode cX10_term 29 = .ok (.ireturn, 1) := by decide +kernel
theorem dX10_added_0 : decode cX10_added 0 = .ok (.aload_n 0, 1) := by decide +kernel
theorem dX10_added_1 : decode cX10_added 1 = .ok (.invokevirtual 347, 3) := by decide +kernel
theorem dX10_added_4 : decode cX10_added 4 = .ok (.istore_n 1, 1) := by decide +kernel
theorem dX10_added_5 : decode cX10_added 5 = .ok (.aload_n 0, 1) := by decide +kernel
theorem dX10_added_6 : decode cX10_added 6 = .ok (.bipush 43, 2) := by decide +kernel
theorem dX10_added_8 : decode cX10_added 8 = .ok (.invokevirtual 331, 3) := by decide +kernel
theorem dX10_added_11 : decode cX10_added 11 = .ok (.ifCond .ne 12, 3) := by decide +kernel
theorem dX10_added_14 : decode cX10_added 14 = .ok (.aload_n 0, 1) := by decide +kernel
theorem dX10_added_15 : decode cX10_added 15 = .ok (.bipush 45, 2) := by decide +kernel
theorem dX10_added_17 : decode cX10_added 17 = .ok (.invokevirtual 331, 3) := by decide +kernel
theorem dX10_added_20 : decode cX10_added 20 = .ok (.ifCond .eq 46, 3) := by decide +kernel
theorem dX10_added_23 : decode cX10_added 23 = .ok (.aload_n 0, 1) := by decide +kernel
theorem dX10_added_24 : decode cX10_added 24 = .ok (.getfield 265, 3) := by decide +kernel
theorem dX10_added_27 : decode cX10_added 27 = .ok (.ldc2_w 350, 3) := by decide +kernel
theorem dX10_added_30 : decode cX10_added 30 = .ok (.lcmp, 1) := by decide +kernel
theorem dX10_added_31 : decode cX10_added 31 = .ok (.ifCond .ne 7, 3) := by decide +kernel
theorem dX10_added_34 : decode cX10_added 34 = .ok (.iconst 1, 1) := by decide +kernel
theorem dX10_added_35 : decode cX10_added 35 = .ok (.goto 4, 3) := by decide +kernel
theorem dX10_added_38 : decode cX10_added 38 = .ok (.iconst 0, 1) := by decide +kernel
theorem dX10_added_39 : decode cX10_added 39 = .ok (.istore_n 2, 1) := by decide +kernel
theorem dX10_added_40 : decode cX10_added 40 = .ok (.aload_n 0, 1) := by decide +kernel
theorem dX10_added_41 : decode cX10_added 41 = .ok (.invokevirtual 294, 3) := by decide +kernel
theorem dX10_added_44 : decode cX10_added 44 = .ok (.aload_n 0, 1) := by decide +kernel
theorem dX10_added_45 : decode cX10_added 45 = .ok (.invokevirtual 347, 3) := by decide +kernel
theorem dX10_added_48 : decode cX10_added 48 = .ok (.istore_n 3, 1) := by decide +kernel
theorem dX10_added_49 : decode cX10_added 49 = .ok (.iload_n 2, 1) := by decide +kernel
theorem dX10_added_50 : decode cX10_added 50 = .ok (.ifCond .eq 9, 3) := by decide +kernel
theorem dX10_added_53 : decode cX10_added 53 = .ok (.iload_n 1, 1) := by decide +kernel
theorem dX10_added_54 : decode cX10_added 54 = .ok (.iload_n 3, 1) := by decide +kernel
theorem dX10_added_55 : decode cX10_added 55 = .ok (.iadd, 1) := by decide +kernel
theorem dX10_added_56 : decode cX10_added 56 = .ok (.goto 6, 3) := by decide +kernel
theorem dX10_added_59 : decode cX10_added 59 = .ok (.iload_n 1, 1) := by decide +kernel
theorem dX10_added_60 : decode cX10_added 60 = .ok (.iload_n 3, 1) := by decide +kernel
theorem dX10_added_61 : decode cX10_added 61 = .ok (.isub, 1) := by decide +kernel
theorem dX10_added_62 : decode cX10_added 62 = .ok (.istore_n 1, 1) := by decide +kernel
theorem dX10_added_63 : decode cX10_added 63 = .ok (.goto (-58), 3) := by decide +kernel
theorem dX10_added_66 : decode cX10_added 66 = .ok (.iload_n 1, 1) := by decide +kernel
theorem dX10_added_67 : decode cX10_added 67 = .ok (.ireturn, 1) := by decide +kernel
theorem dX10_not_0 : decode cX10_not 0 = .ok (.aload_n 0, 1) := by decide +kernel
theorem dX10_not_1 : decode cX10_not 1 = .ok (.ldc2_w 352, 3) := by decide +kernel
theorem dX10_not_4 : decode cX10_not 4 = .ok (.invokevirtual 299, 3) := by decide +kernel
theorem dX10_not_7 : decode cX10_not 7 = .ok (.ifCond .eq 37, 3) := by decide +kernel
theorem dX10_not_10 : decode cX10_not 10 = .ok (.aload_n 0, 1) := by decide +kernel
theorem dX10_not_11 : decode cX10_not 11 = .ok (.invokevirtual 334, 3) := by decide +kernel
theorem dX10_not_14 : decode cX10_not 14 = .ok (.ifCond .ne 5, 3) := by decide +kernel
theorem dX10_not_17 : decode cX10_not 17 = .ok (.iconst 0, 1) := by decide +kernel
theorem dX10_not_18 : decode cX10_not 18 = .ok (.ireturn, 1) := by decide +kernel
theorem dX10_not_19 : decode cX10_not 19 = .ok (.aload_n 0, 1) := by decide +kernel
theorem dX10_not_20 : decode cX10_not 20 = .ok (.invokevirtual 354, 3) := by decide +kernel
theorem dX10_not_23 : decode cX10_not 23 = .ok (.istore_n 1, 1) := by decide +kernel
theorem dX10_not_24 : decode cX10_not 24 = .ok (.aload_n 0, 1) := by decide +kernel
theorem dX10_not_25 : decode cX10_not 25 = .ok (.dup, 1) := by decide +kernel
theorem dX10_not_26 : decode cX10_not 26 = .ok (.getfield 288, 3) := by decide +kernel
theorem dX10_not_29 : decode cX10_not 29 = .ok (.iconst 1, 1) := by decide +kernel
theorem dX10_not_30 : decode cX10_not 30 = .ok (.isub, 1) := by decide +kernel
theorem dX10_not_31 : decode cX10_not 31 = .ok (.putfield 288, 3) := by decide +kernel
theorem dX10_not_34 : decode cX10_not 34 = .ok (.iload_n 1, 1) := by decide +kernel
theorem dX10_not_35 : decode cX10_not 35 = .ok (.ifCond .ne 7, 3) := by decide +kernel
theorem dX10_not_38 : decode cX10_not 38 = .ok (.iconst 1, 1) := by decide +kernel
theorem dX10_not_39 : decode cX10_not 39 = .ok (.goto 4, 3) := by decide +kernel
theorem dX10_not_42 : decode cX10_not 42 = .ok (.iconst 0, 1) := by decide +kernel
theorem dX10_not_43 : decode cX10_not 43 = .ok (.ireturn, 1) := by decide +kernel
theorem dX10_not_44 : decode cX10_not 44 = .ok (.aload_n 0, 1) := by decide +kernel
theorem dX10_not_45 : decode cX10_not 45 = .ok (.invokevirtual 357, 3) := by decide +kernel
theorem dX10_not_48 : decode cX10_not 48 = .ok (.istore_n 1, 1) := by decide +kernel
theorem dX10_not_49 : decode cX10_not 49 = .ok (.aload_n 0, 1) := by decide +kernel
theorem dX10_not_50 : decode cX10_not 50 = .ok (.bipush 60, 2) := by decide +kernel
theorem dX10_not_52 : decode cX10_not 52 = .ok (.invokevirtual 331, 3) := by decide +kernel
theorem dX10_not_55 : decode cX10_not 55 = .ok (.ifCond .ne 14, 3) := by decide +kernel
theorem dX10_not_58 : decode cX10_not 58 = .ok (.aload_n 0, 1) := by decide +kernel
theorem dX10_not_59 : decode cX10_not 59 = .ok (.bipush 61, 2) := by decide +kernel
theorem dX10_not_61 : decode cX10_not 61 = .ok (.invokevirtual 331, 3) := by decide +kernel
theorem dX10_not_64 : decode cX10_not 64 = .ok (.ifCond .ne 5, 3) := by decide +kernel
theorem dX10_not_67 : decode cX10_not 67 = .ok (.iload_n 1, 1) := by decide +kernel
theorem dX10_not_68 : decode cX10_not 68 = .ok (.ireturn, 1) := by decide +kernel
theorem dX10_not_69 : decode cX10_not 69 = .ok (.aload_n 0, 1) := by decide +kernel
theorem dX10_not_70 : decode cX10_not 70 = .ok (.getfield 265, 3) := by decide +kernel
theorem dX10_not_73 : decode cX10_not 73 = .ok (.ldc2_w 360, 3) := by decide +kernel
theorem dX10_not_76 : decode cX10_not 76 = .ok (.lcmp, 1) := by decide +kernel
theorem dX10_not_77 : decode cX10_not 77 = .ok (.ifCond .ne 7, 3) := by decide +kernel
theorem dX10_not_80 : decode cX10_not 80 = .ok (.iconst 1, 1) := by decide +kernel
theorem dX10_not_81 : decode cX10_not 81 = .ok (.goto 4, 3) := by decide +kernel
theorem dX10_not_84 : decode cX10_not 84 = .ok (.iconst 0, 1) := by decide +kernel
theorem dX10_not_85 : decode cX10_not 85 = .ok (.istore_n 2, 1) := by decide +kernel
theorem dX10_not_86 : decode cX10_not 86 = .ok (.aload_n 0, 1) := by decide +kernel
theorem dX10_not_87 : decode cX10_not 87 = .ok (.invokevirtual 294, 3) := by decide +kernel
theorem dX10_not_90 : decode cX10_not 90 = .ok (.aload_n 0, 1) := by decide +kernel
theorem dX10_not_91 : decode cX10_not 91 = .ok (.invokevirtual 357, 3) := by decide +kernel
theorem dX10_not_94 : decode cX10_not 94 = .ok (.istore_n 3, 1) := by decide +kernel
theorem dX10_not_95 : decode cX10_not 95 = .ok (.iload_n 2, 1) := by decide +kernel
theorem dX10_not_96 : decode cX10_not 96 = .ok (.ifCond .eq 11, 3) := by decide +kernel
theorem dX10_not_99 : decode cX10_not 99 = .ok (.iload_n 1, 1) := by decide +kernel
theorem dX10_not_100 : decode cX10_not 100 = .ok (.iload_n 3, 1) := by decide +kernel
theorem dX10_not_101 : decode cX10_not 101 = .ok (.if_icmp .ge 15, 3) := by decide +kernel
theorem dX10_not_104 : decode cX10_not 104 = .ok (.goto 8, 3) := by decide +kernel
theorem dX10_not_107 : decode cX10_not 107 = .ok (.iload_n 1, 1) := by decide +kernel
theorem dX10_not_108 : decode cX10_not 108 = .ok (.iload_n 3, 1) := by decide +kernel
theorem dX10_not_109 : decode cX10_not 109 = .ok (.if_icmp .ne 7, 3) := by decide +kernel
theorem dX10_not_112 : decode cX10_not 112 = .ok (.iconst 1, 1) := by decide +kernel
theorem dX10_not_113 : decode cX10_not 113 = .ok (.goto 4, 3) := by decide +kernel
theorem dX10_not_116 : decode cX10_not 116 = .ok (.iconst 0, 1) := by decide +kernel
theorem dX10_not_117 : decode cX10_not 117 = .ok (.ireturn, 1) := by decide +kernel
theorem dX10_both_0 : decode cX10_both 0 = .ok (.aload_n 0, 1) := by decide +kernel
theorem dX10_both_1 : decode cX10_both 1 = .ok (.invokevirtual 354, 3) := by decide +kernel
theorem dX10_both_4 : decode cX10_both 4 = .ok (.istore_n 1, 1) := by decide +kernel
theorem dX10_both_5 : decode cX10_both 5 = .ok (.aload_n 0, 1) := by decide +kernel
theorem dX10_both_6 : decode cX10_both 6 = .ok (.ldc2_w 362, 3) := by decide +kernel
theorem dX10_both_9 : decode cX10_both 9 = .ok (.invokevirtual 299, 3) := by decide +kernel
theorem dX10_both_12 : decode cX10_both 12 = .ok (.ifCond .eq 29, 3) := by decide +kernel
theorem dX10_both_15 : decode cX10_both 15 = .ok (.aload_n 0, 1) := by decide +kernel
theorem dX10_both_16 : decode cX10_both 16 = .ok (.invokevirtual 294, 3) := by decide +kernel
theorem dX10_both_19 : decode cX10_both 19 = .ok (.aload_n 0, 1) := by decide +kernel
theorem dX10_both_20 : decode cX10_both 20 = .ok (.invokevirtual 354, 3) := by decide +kernel
theorem dX10_both_23 : decode cX10_both 23 = .ok (.istore_n 2, 1) := by decide +kernel
theorem dX10_both_24 : decode cX10_both 24 = .ok (.iload_n 1, 1) := by decide +kernel
theorem dX10_both_25 : decode cX10_both 25 = .ok (.ifCond .eq 11, 3) := by decide +kernel
theorem dX10_both_28 : decode cX10_both 28 = .ok (.iload_n 2, 1) := by decide +kernel
theorem dX10_both_29 : decode cX10_both 29 = .ok (.ifCond .eq 7, 3) := by decide +kernel
theorem dX10_both_32 : decode cX10_both 32 = .ok (.iconst 1, 1) := by decide +kernel
theorem dX10_both_33 : decode cX10_both 33 = .ok (.goto 4, 3) := by decide +kernel
theorem dX10_both_36 : decode cX10_both 36 = .ok (.iconst 0, 1) := by decide +kernel
theorem dX10_both_37 : decode cX10_both 37 = .ok (.istore_n 1, 1) := by decide +kernel
theorem dX10_both_38 : decode cX10_both 38 = .ok (.goto (-33), 3) := by decide +kernel
theorem dX10_both_41 : decode cX10_both 41 = .ok (.iload_n 1, 1) := by decide +kernel
theorem dX10_both_42 : decode cX10_both 42 = .ok (.ireturn, 1) := by decide +kernel
theorem dX10_either_0 : decode cX10_either 0 = .ok (.aload_n 0, 1) := by decide +kernel
theorem dX10_either_1 : decode cX10_either 1 = .ok (.invokevirtual 364, 3) := by decide +kernel
theorem dX10_either_4 : decode cX10_either 4 = .ok (.istore_n 1, 1) := by decide +kernel
theorem dX10_either_5 : decode cX10_either 5 = .ok (.aload_n 0, 1) := by decide +kernel
theorem dX10_either_6 : decode cX10_either 6 = .ok (.ldc2_w 367, 3) := by decide +kernel
theorem dX10_either_9 : decode cX10_either 9 = .ok (.invokevirtual 299, 3) := by decide +kernel
theorem dX10_either_12 : decode cX10_either 12 = .ok (.ifCond .eq 29, 3) := by decide +kernel
theorem dX10_either_15 : decode cX10_either 15 = .ok (.aload_n 0, 1) := by decide +kernel
theorem dX10_either_16 : decode cX10_either 16 = .ok (.invokevirtual 294, 3) := by decide +kernel
theorem dX10_either_19 : decode cX10_either 19 = .ok (.aload_n 0, 1) := by decide +kernel
theorem dX10_either_20 : decode cX10_either 20 = .ok (.invokevirtual 364, 3) := by decide +kernel
theorem dX10_either_23 : decode cX10_either 23 = .ok (.istore_n 2, 1) := by decide +kernel
theorem dX10_either_24 : decode cX10_either 24 = .ok (.iload_n 1, 1) := by decide +kernel
theorem dX10_either_25 : decode cX10_either 25 = .ok (.ifCond .ne 7, 3) := by decide +kernel
theorem dX10_either_28 : decode cX10_either 28 = .ok (.iload_n 2, 1) := by decide +kernel
theorem dX10_either_29 : decode cX10_either 29 = .ok (.ifCond .eq 7, 3) := by decide +kernel
theorem dX10_either_32 : decode cX10_either 32 = .ok (.iconst 1, 1) := by decide +kernel
theorem dX10_either_33 : decode cX10_either 33 = .ok (.goto 4, 3) := by decide +kernel
theorem dX10_either_36 : decode cX10_either 36 = .ok (.iconst 0, 1) := by decide +kernel
theorem dX10_either_37 : decode cX10_either 37 = .ok (.istore_n 1, 1) := by decide +kernel
theorem dX10_either_38 : decode cX10_either 38 = .ok (.goto (-33), 3) := by decide +kernel
theorem dX10_either_41 : decode cX10_either 41 = .ok (.iload_n 1, 1) := by decide +kernel
theorem dX10_either_42 : decode cX10_either 42 = .ok (.ireturn, 1) := by decide +kernel
theorem dX10_part_0 : decode cX10_part 0 = .ok (.aload_n 0, 1) := by decide +kernel
theorem dX10_part_1 : decode cX10_part 1 = .ok (.lload_n 1, 1) := by decide +kernel
theorem dX10_part_2 : decode cX10_part 2 = .ok (.invokevirtual 299, 3) := by decide +kernel
theorem dX10_part_5 : decode cX10_part 5 = .ok (.ifCond .ne 7, 3) := by decide +kernel
theorem dX10_part_8 : decode cX10_part 8 = .ok (.aload_n 0, 1) := by decide +kernel
theorem dX10_part_9 : decode cX10_part 9 = .ok (.invokevirtual 291, 3) := by decide +kernel
theorem dX10_part_12 : decode cX10_part 12 = .ok (.aload_n 0, 1) := by decide +kernel
theorem dX10_part_13 : decode cX10_part 13 = .ok (.getfield 281, 3) := by decide +kernel
theorem dX10_part_16 : decode cX10_part 16 = .ok (.ifCond .ne 7, 3) := by decide +kernel
theorem dX10_part_19 : decode cX10_part 19 = .ok (.aload_n 0, 1) := by decide +kernel
theorem dX10_part_20 : decode cX10_part 20 = .ok (.invokevirtual 294, 3) := by decide +kernel
theorem dX10_part_23 : decode cX10_part 23 = .ok (.aload_n 0, 1) := by decide +kernel
theorem dX10_part_24 : decode cX10_part 24 = .ok (.getfield 281, 3) := by decide +kernel
theorem dX10_part_27 : decode cX10_part 27 = .ok (.ifCond .eq 7, 3) := by decide +kernel
theorem dX10_part_30 : decode cX10_part 30 = .ok (.iconst 0, 1) := by decide +kernel
theorem dX10_part_31 : decode cX10_part 31 = .ok (.goto 7, 3) := by decide +kernel
theorem dX10_part_34 : decode cX10_part 34 = .ok (.aload_n 0, 1) := by decide +kernel
theorem dX10_part_35 : decode cX10_part 35 = .ok (.invokevirtual 341, 3) := by decide +kernel
theorem dX10_part_38 : decode cX10_part 38 = .ok (.istore_n 3, 1) := by decide +kernel
theorem dX10_part_39 : decode cX10_part 39 = .ok (.aload_n 0, 1) := by decide +kernel
theorem dX10_part_40 : decode cX10_part 40 = .ok (.bipush 59, 2) := by decide +kernel
theorem dX10_part_42 : decode cX10_part 42 = .ok (.invokevirtual 331, 3) := by decide +kernel
theorem dX10_part_45 : decode cX10_part 45 = .ok (.ifCond .ne 7, 3) := by decide +kernel
theorem dX10_part_48 : decode cX10_part 48 = .ok (.aload_n 0, 1) := by decide +kernel
theorem dX10_part_49 : decode cX10_part 49 = .ok (.invokevirtual 291, 3) := by decide +kernel
theorem dX10_part_52 : decode cX10_part 52 = .ok (.aload_n 0, 1) := by decide +kernel
theorem dX10_part_53 : decode cX10_part 53 = .ok (.getfield 281, 3) := by decide +kernel
theorem dX10_part_56 : decode cX10_part 56 = .ok (.ifCond .ne 7, 3) := by decide +kernel
theorem dX10_part_59 : decode cX10_part 59 = .ok (.aload_n 0, 1) := by decide +kernel
theorem dX10_part_60 : decode cX10_part 60 = .ok (.invokevirtual 294, 3) := by decide +kernel
theorem dX10_part_63 : decode cX10_part 63 = .ok (.iload_n 3, 1) := by decide +kernel
theorem dX10_part_64 : decode cX10_part 64 = .ok (.ireturn, 1) := by decide +kernel
theorem dX10_read_0 : decode cX10_read 0 = .ok (.aload_n 0, 1) := by decide +kernel
theorem dX10_read_1 : decode cX10_read 1 = .ok (.sipush 160, 3) := by decide +kernel
theorem dX10_read_4 : decode cX10_read 4 = .ok (.iload_n 1, 1) := by decide +kernel
theorem dX10_read_5 : decode cX10_read 5 = .ok (.imul, 1) := by decide +kernel
theorem dX10_read_6 : decode cX10_read 6 = .ok (.putfield 246, 3) := by decide +kernel
theorem dX10_read_9 : decode cX10_read 9 = .ok (.aload_n 0, 1) := by decide +kernel
theorem dX10_read_10 : decode cX10_read 10 = .ok (.aload_n 0, 1) := by decide +kernel
theorem dX10_read_11 : decode cX10_read 11 = .ok (.getfield 17, 3) := by decide +kernel
theorem dX10_read_14 : decode cX10_read 14 = .ok (.iload_n 1, 1) := by decide +kernel
theorem dX10_read_15 : decode cX10_read 15 = .ok (.iaload, 1) := by decide +kernel
theorem dX10_read_16 : decode cX10_read 16 = .ok (.putfield 243, 3) := by decide +kernel
theorem dX10_read_19 : decode cX10_read 19 = .ok (.aload_n 0, 1) := by decide +kernel
theorem dX10_read_20 : decode cX10_read 20 = .ok (.iconst 0, 1) := by decide +kernel
theorem dX10_read_21 : decode cX10_read 21 = .ok (.putfield 249, 3) := by decide +kernel
theorem dX10_read_24 : decode cX10_read 24 = .ok (.aload_n 0, 1) := by decide +kernel
theorem dX10_read_25 : decode cX10_read 25 = .ok (.iconst 0, 1) := by decide +kernel
theorem dX10_read_26 : decode cX10_read 26 = .ok (.putfield 288, 3) := by decide +kernel
theorem dX10_read_29 : decode cX10_read 29 = .ok (.aload_n 0, 1) := by decide +kernel
theorem dX10_read_30 : decode cX10_read 30 = .ok (.iconst 0, 1) := by decide +kernel
theorem dX10_read_31 : decode cX10_read 31 = .ok (.putfield 281, 3) := by decide +kernel
theorem dX10_read_34 : decode cX10_read 34 = .ok (.aload_n 0, 1) := by decide +kernel
theorem dX10_read_35 : decode cX10_read 35 = .ok (.invokevirtual 294, 3) := by decide +kernel
theorem dX10_read_38 : decode cX10_read 38 = .ok (.aload_n 0, 1) := by decide +kernel
theorem dX10_read_39 : decode cX10_read 39 = .ok (.ldc2_w 369, 3) := by decide +kernel
theorem dX10_read_42 : decode cX10_read 42 = .ok (.invokevirtual 371, 3) := by decide +kernel
theorem dX10_read_45 : decode cX10_read 45 = .ok (.istore_n 3, 1) := by decide +kernel
theorem dX10_read_46 : decode cX10_read 46 = .ok (.aload_n 0, 1) := by decide +kernel
theorem dX10_read_47 : decode cX10_read 47 = .ok (.getfield 281, 3) := by decide +kernel
theorem dX10_read_50 : decode cX10_read 50 = .ok (.ifCond .eq 7, 3) := by decide +kernel
theorem dX10_read_53 : decode cX10_read 53 = .ok (.iconst 0, 1) := by decide +kernel
theorem dX10_read_54 : decode cX10_read 54 = .ok (.goto 10, 3) := by decide +kernel
theorem dX10_read_57 : decode cX10_read 57 = .ok (.aload_n 0, 1) := by decide +kernel
theorem dX10_read_58 : decode cX10_read 58 = .ok (.ldc2_w 375, 3) := by decide +kernel
theorem dX10_read_61 : decode cX10_read 61 = .ok (.invokevirtual 371, 3) := by decide +kernel
theorem dX10_read_64 : decode cX10_read 64 = .ok (.istore 4, 2) := by decide +kernel
theorem dX10_read_66 : decode cX10_read 66 = .ok (.aload_n 0, 1) := by decide +kernel
theorem dX10_read_67 : decode cX10_read 67 = .ok (.getfield 281, 3) := by decide +kernel
theorem dX10_read_70 : decode cX10_read 70 = .ok (.ifCond .eq 7, 3) := by decide +kernel
theorem dX10_read_73 : decode cX10_read 73 = .ok (.iconst 0, 1) := by decide +kernel
theorem dX10_read_74 : decode cX10_read 74 = .ok (.goto 10, 3) := by decide +kernel
theorem dX10_read_77 : decode cX10_read 77 = .ok (.aload_n 0, 1) := by decide +kernel
theorem dX10_read_78 : decode cX10_read 78 = .ok (.ldc2_w 377, 3) := by decide +kernel
theorem dX10_read_81 : decode cX10_read 81 = .ok (.invokevirtual 371, 3) := by decide +kernel
theorem dX10_read_84 : decode cX10_read 84 = .ok (.istore 5, 2) := by decide +kernel
theorem dX10_read_86 : decode cX10_read 86 = .ok (.aload_n 0, 1) := by decide +kernel
theorem dX10_read_87 : decode cX10_read 87 = .ok (.getfield 281, 3) := by decide +kernel
theorem dX10_read_90 : decode cX10_read 90 = .ok (.ifCond .ne 14, 3) := by decide +kernel
theorem dX10_read_93 : decode cX10_read 93 = .ok (.aload_n 0, 1) := by decide +kernel
theorem dX10_read_94 : decode cX10_read 94 = .ok (.getfield 258, 3) := by decide +kernel
theorem dX10_read_97 : decode cX10_read 97 = .ok (.ifCond .eq 7, 3) := by decide +kernel
theorem dX10_read_100 : decode cX10_read 100 = .ok (.aload_n 0, 1) := by decide +kernel
theorem dX10_read_101 : decode cX10_read 101 = .ok (.invokevirtual 291, 3) := by decide +kernel
theorem dX10_read_104 : decode cX10_read 104 = .ok (.iload_n 2, 1) := by decide +kernel
theorem dX10_read_105 : decode cX10_read 105 = .ok (.ifCond .ne 7, 3) := by decide +kernel
theorem dX10_read_108 : decode cX10_read 108 = .ok (.iload_n 3, 1) := by decide +kernel
theorem dX10_read_109 : decode cX10_read 109 = .ok (.goto 15, 3) := by decide +kernel
theorem dX10_read_112 : decode cX10_read 112 = .ok (.iload_n 2, 1) := by decide +kernel
theorem dX10_read_113 : decode cX10_read 113 = .ok (.iconst 1, 1) := by decide +kernel
theorem dX10_read_114 : decode cX10_read 114 = .ok (.if_icmp .ne 8, 3) := by decide +kernel
theorem dX10_read_117 : decode cX10_read 117 = .ok (.iload 4, 2) := by decide +kernel
theorem dX10_read_119 : decode cX10_read 119 = .ok (.goto 5, 3) := by decide +kernel
theorem dX10_read_122 : decode cX10_read 122 = .ok (.iload 5, 2) := by decide +kernel
theorem dX10_read_124 : decode cX10_read 124 = .ok (.ireturn, 1) := by decide +kernel
theorem dX10_text_0 : decode cX10_text 0 = .ok (.aload_n 0, 1) := by decide +kernel
theorem dX10_text_1 : decode cX10_text 1 = .ok (.getfield 141, 3) := by decide +kernel
theorem dX10_text_4 : decode cX10_text 4 = .ok (.bipush 6, 2) := by decide +kernel
theorem dX10_text_6 : decode cX10_text 6 = .ok (.if_icmp .ne 6, 3) := by decide +kernel
theorem dX10_text_9 : decode cX10_text 9 = .ok (.bipush (-4), 2) := by decide +kernel
theorem dX10_text_11 : decode cX10_text 11 = .ok (.ireturn, 1) := by decide +kernel
theorem dX10_text_12 : decode cX10_text 12 = .ok (.iconst 0, 1) := by decide +kernel
theorem dX10_text_13 : decode cX10_text 13 = .ok (.istore_n 1, 1) := by decide +kernel
theorem dX10_text_14 : decode cX10_text 14 = .ok (.iload_n 1, 1) := by decide +kernel
theorem dX10_text_15 : decode cX10_text 15 = .ok (.aload_n 0, 1) := by decide +kernel
theorem dX10_text_16 : decode cX10_text 16 = .ok (.getfield 240, 3) := by decide +kernel
theorem dX10_text_19 : decode cX10_text 19 = .ok (.if_icmp .ge 30, 3) := by decide +kernel
theorem dX10_text_22 : decode cX10_text 22 = .ok (.aload_n 0, 1) := by decide +kernel
theorem dX10_text_23 : decode cX10_text 23 = .ok (.getfield 13, 3) := by decide +kernel
theorem dX10_text_26 : decode cX10_text 26 = .ok (.sipush 160, 3) := by decide +kernel
theorem dX10_text_29 : decode cX10_text 29 = .ok (.aload_n 0, 1) := by decide +kernel
theorem dX10_text_30 : decode cX10_text 30 = .ok (.getfield 141, 3) := by decide +kernel
theorem dX10_text_33 : decode cX10_text 33 = .ok (.imul, 1) := by decide +kernel
theorem dX10_text_34 : decode cX10_text 34 = .ok (.iload_n 1, 1) := by decide +kernel
theorem dX10_text_35 : decode cX10_text 35 = .ok (.iadd, 1) := by decide +kernel
theorem dX10_text_36 : decode cX10_text 36 = .ok (.aload_n 0, 1) := by decide +kernel
theorem dX10_text_37 : decode cX10_text 37 = .ok (.getfield 20, 3) := by decide +kernel
theorem dX10_text_40 : decode cX10_text 40 = .ok (.iload_n 1, 1) := by decide +kernel
theorem dX10_text_41 : decode cX10_text 41 = .ok (.iaload, 1) := by decide +kernel
theorem dX10_text_42 : decode cX10_text 42 = .ok (.iastore, 1) := by decide +kernel
theorem dX10_text_43 : decode cX10_text 43 = .ok (.iinc 1 1, 3) := by decide +kernel
theorem dX10_text_46 : decode cX10_text 46 = .ok (.goto (-32), 3) := by decide +kernel
theorem dX10_text_49 : decode cX10_text 49 = .ok (.aload_n 0, 1) := by decide +kernel
theorem dX10_text_50 : decode cX10_text 50 = .ok (.getfield 17, 3) := by decide +kernel
theorem dX10_text_53 : decode cX10_text 53 = .ok (.aload_n 0, 1) := by decide +kernel
theorem dX10_text_54 : decode cX10_text 54 = .ok (.getfield 141, 3) := by decide +kernel
theorem dX10_text_57 : decode cX10_text 57 = .ok (.aload_n 0, 1) := by decide +kernel
theorem dX10_text_58 : decode cX10_text 58 = .ok (.getfield 240, 3) := by decide +kernel
theorem dX10_text_61 : decode cX10_text 61 = .ok (.iastore, 1) := by decide +kernel
theorem dX10_text_62 : decode cX10_text 62 = .ok (.aload_n 0, 1) := by decide +kernel
theorem dX10_text_63 : decode cX10_text 63 = .ok (.iconst 0, 1) := by decide +kernel
theorem dX10_text_64 : decode cX10_text 64 = .ok (.putfield 240, 3) := by decide +kernel
theorem dX10_text_67 : decode cX10_text 67 = .ok (.aload_n 0, 1) := by decide +kernel
theorem dX10_text_68 : decode cX10_text 68 = .ok (.aload_n 0, 1) := by decide +kernel
theorem dX10_text_69 : decode cX10_text 69 = .ok (.getfield 141, 3) := by decide +kernel
theorem dX10_text_72 : decode cX10_text 72 = .ok (.iconst 0, 1) := by decide +kernel
theorem dX10_text_73 : decode cX10_text 73 = .ok (.invokevirtual 379, 3) := by decide +kernel
theorem dX10_text_76 : decode cX10_text 76 = .ok (.istore_n 1, 1) := by decide +kernel
theorem dX10_text_77 : decode cX10_text 77 = .ok (.aload_n 0, 1) := by decide +kernel
theorem dX10_text_78 : decode cX10_text 78 = .ok (.getfield 281, 3) := by decide +kernel
theorem dX10_text_81 : decode cX10_text 81 = .ok (.ifCond .eq 11, 3) := by decide +kernel
theorem dX10_text_84 : decode cX10_text 84 = .ok (.bipush (-100), 2) := by decide +kernel
theorem dX10_text_86 : decode cX10_text 86 = .ok (.aload_n 0, 1) := by decide +kernel
theorem dX10_text_87 : decode cX10_text 87 = .ok (.getfield 285, 3) := by decide +kernel
theorem dX10_text_90 : decode cX10_text 90 = .ok (.isub, 1) := by decide +kernel
theorem dX10_text_91 : decode cX10_text 91 = .ok (.ireturn, 1) := by decide +kernel
theorem dX10_text_92 : decode cX10_text 92 = .ok (.aload_n 0, 1) := by decide +kernel
theorem dX10_text_93 : decode cX10_text 93 = .ok (.dup, 1) := by decide +kernel
theorem dX10_text_94 : decode cX10_text 94 = .ok (.getfield 141, 3) := by decide +kernel
theorem dX10_text_97 : decode cX10_text 97 = .ok (.iconst 1, 1) := by decide +kernel
theorem dX10_text_98 : decode cX10_text 98 = .ok (.iadd, 1) := by decide +kernel
theorem dX10_text_99 : decode cX10_text 99 = .ok (.putfield 141, 3) := by decide +kernel
theorem dX10_text_102 : decode cX10_text 102 = .ok (.aload_n 0, 1) := by decide +kernel
theorem dX10_text_103 : decode cX10_text 103 = .ok (.getfield 141, 3) := by decide +kernel
theorem dX10_text_106 : decode cX10_text 106 = .ok (.iconst 1, 1) := by decide +kernel
theorem dX10_text_107 : decode cX10_text 107 = .ok (.isub, 1) := by decide +kernel
theorem dX10_text_108 : decode cX10_text 108 = .ok (.ireturn, 1) := by decide +kernel
theorem dX10_force_0 : decode cX10_force 0 = .ok (.iload_n 1, 1) := by decide +kernel
theorem dX10_force_1 : decode cX10_force 1 = .ok (.i2l, 1) := by decide +kernel
theorem dX10_force_2 : decode cX10_force 2 = .ok (.lconst 0, 1) := by decide +kernel
theorem dX10_force_3 : decode cX10_force 3 = .ok (.aload_n 0, 1) := by decide +kernel
theorem dX10_force_4 : decode cX10_force 4 = .ok (.getfield 141, 3) := by decide +kernel
theorem dX10_force_7 : decode cX10_force 7 = .ok (.iconst 1, 1) := by decide +kernel
theorem dX10_force_8 : decode cX10_force 8 = .ok (.isub, 1) := by decide +kernel
theorem dX10_force_9 : decode cX10_force 9 = .ok (.i2l, 1) := by decide +kernel
theorem dX10_force_10 : decode cX10_force 10 = .ok (.invokestatic 149, 3) := by decide +kernel
theorem dX10_force_13 : decode cX10_force 13 = .ok (.ifCond .ne 6, 3) := by decide +kernel
theorem dX10_force_16 : decode cX10_force 16 = .ok (.bipush (-2), 2) := by decide +kernel
theorem dX10_force_18 : decode cX10_force 18 = .ok (.ireturn, 1) := by decide +kernel
theorem dX10_force_19 : decode cX10_force 19 = .ok (.aload_n 0, 1) := by decide +kernel
theorem dX10_force_20 : decode cX10_force 20 = .ok (.getfield 382, 3) := by decide +kernel
theorem dX10_force_23 : decode cX10_force 23 = .ok (.istore_n 2, 1) := by decide +kernel
theorem dX10_force_24 : decode cX10_force 24 = .ok (.aload_n 0, 1) := by decide +kernel
theorem dX10_force_25 : decode cX10_force 25 = .ok (.iload_n 1, 1) := by decide +kernel
theorem dX10_force_26 : decode cX10_force 26 = .ok (.putfield 382, 3) := by decide +kernel
theorem dX10_force_29 : decode cX10_force 29 = .ok (.iload_n 2, 1) := by decide +kernel
theorem dX10_force_30 : decode cX10_force 30 = .ok (.ireturn, 1) := by decide +kernel
theorem dX10_within_0 : decode cX10_within 0 = .ok (.iload_n 0, 1) := by decide +kernel
theorem dX10_within_1 : decode cX10_within 1 = .ok (.iload_n 1, 1) := by decide +kernel
theorem dX10_within_2 : decode cX10_within 2 = .ok (.if_icmp .ge 7, 3) := by decide +kernel
theorem dX10_within_5 : decode cX10_within 5 = .ok (.iload_n 1, 1) := by decide +kernel
theorem dX10_within_6 : decode cX10_within 6 = .ok (.goto 13, 3) := by decide +kernel
theorem dX10_within_9 : decode cX10_within 9 = .ok (.iload_n 0, 1) := by decide +kernel
theorem dX10_within_10 : decode cX10_within 10 = .ok (.iload_n 2, 1) := by decide +kernel
theorem dX10_within_11 : decode cX10_within 11 = .ok (.if_icmp .le 7, 3) := by decide +kernel
theorem dX10_within_14 : decode cX10_within 14 = .ok (.iload_n 2, 1) := by decide +kernel
theorem dX10_within_15 : decode cX10_within 15 = .ok (.goto 4, 3) := by decide +kernel
theorem dX10_within_18 : decode cX10_within 18 = .ok (.iload_n 0, 1) := by decide +kernel
theorem dX10_within_19 : decode cX10_within 19 = .ok (.ireturn, 1) := by decide +kernel
theorem dX10_saysOf_0 : decode cX10_saysOf 0 = .ok (.aload_n 0, 1) := by decide +kernel
theorem dX10_saysOf_1 : decode cX10_saysOf 1 = .ok (.aload_n 0, 1) := by decide +kernel
theorem dX10_saysOf_2 : decode cX10_saysOf 2 = .ok (.iload_n 1, 1) := by decide +kernel
theorem dX10_saysOf_3 : decode cX10_saysOf 3 = .ok (.invokevirtual 202, 3) := by decide +kernel
theorem dX10_saysOf_6 : decode cX10_saysOf 6 = .ok (.invokestatic 385, 3) := by decide +kernel
theorem dX10_saysOf_9 : decode cX10_saysOf 9 = .ok (.putfield 303, 3) := by decide +kernel
theorem dX10_saysOf_12 : decode cX10_saysOf 12 = .ok (.aload_n 0, 1) := by decide +kernel
theorem dX10_saysOf_13 : decode cX10_saysOf 13 = .ok (.aload_n 0, 1) := by decide +kernel
theorem dX10_saysOf_14 : decode cX10_saysOf 14 = .ok (.iload_n 1, 1) := by decide +kernel
theorem dX10_saysOf_15 : decode cX10_saysOf 15 = .ok (.invokevirtual 206, 3) := by decide +kernel
theorem dX10_saysOf_18 : decode cX10_saysOf 18 = .ok (.invokestatic 385, 3) := by decide +kernel
theorem dX10_saysOf_21 : decode cX10_saysOf 21 = .ok (.putfield 308, 3) := by decide +kernel
theorem dX10_saysOf_24 : decode cX10_saysOf 24 = .ok (.aload_n 0, 1) := by decide +kernel
theorem dX10_saysOf_25 : decode cX10_saysOf 25 = .ok (.aload_n 0, 1) := by decide +kernel
theorem dX10_saysOf_26 : decode cX10_saysOf 26 = .ok (.iload_n 1, 1) := by decide +kernel
theorem dX10_saysOf_27 : decode cX10_saysOf 27 = .ok (.invokevirtual 212, 3) := by decide +kernel
theorem dX10_saysOf_30 : decode cX10_saysOf 30 = .ok (.putfield 313, 3) := by decide +kernel
theorem dX10_saysOf_33 : decode cX10_saysOf 33 = .ok (.aload_n 0, 1) := by decide +kernel
theorem dX10_saysOf_34 : decode cX10_saysOf 34 = .ok (.aload_n 0, 1) := by decide +kernel
theorem dX10_saysOf_35 : decode cX10_saysOf 35 = .ok (.getfield 23, 3) := by decide +kernel
theorem dX10_saysOf_38 : decode cX10_saysOf 38 = .ok (.aload_n 0, 1) := by decide +kernel
theorem dX10_saysOf_39 : decode cX10_saysOf 39 = .ok (.getfield 50, 3) := by decide +kernel
theorem dX10_saysOf_42 : decode cX10_saysOf 42 = .ok (.iload_n 1, 1) := by decide +kernel
theorem dX10_saysOf_43 : decode cX10_saysOf 43 = .ok (.iaload, 1) := by decide +kernel
theorem dX10_saysOf_44 : decode cX10_saysOf 44 = .ok (.iaload, 1) := by decide +kernel
theorem dX10_saysOf_45 : decode cX10_saysOf 45 = .ok (.putfield 318, 3) := by decide +kernel
theorem dX10_saysOf_48 : decode cX10_saysOf 48 = .ok (.aload_n 0, 1) := by decide +kernel
theorem dX10_saysOf_49 : decode cX10_saysOf 49 = .ok (.aload_n 0, 1) := by decide +kernel
theorem dX10_saysOf_50 : decode cX10_saysOf 50 = .ok (.getfield 26, 3) := by decide +kernel
theorem dX10_saysOf_53 : decode cX10_saysOf 53 = .ok (.aload_n 0, 1) := by decide +kernel
theorem dX10_saysOf_54 : decode cX10_saysOf 54 = .ok (.getfield 50, 3) := by decide +kernel
theorem dX10_saysOf_57 : decode cX10_saysOf 57 = .ok (.iload_n 1, 1) := by decide +kernel
theorem dX10_saysOf_58 : decode cX10_saysOf 58 = .ok (.iaload, 1) := by decide +kernel
theorem dX10_saysOf_59 : decode cX10_saysOf 59 = .ok (.iaload, 1) := by decide +kernel
theorem dX10_saysOf_60 : decode cX10_saysOf 60 = .ok (.putfield 323, 3) := by decide +kernel
theorem dX10_saysOf_63 : decode cX10_saysOf 63 = .ok (.aload_n 0, 1) := by decide +kernel
theorem dX10_saysOf_64 : decode cX10_saysOf 64 = .ok (.aload_n 0, 1) := by decide +kernel
theorem dX10_saysOf_65 : decode cX10_saysOf 65 = .ok (.aload_n 0, 1) := by decide +kernel
theorem dX10_saysOf_66 : decode cX10_saysOf 66 = .ok (.getfield 50, 3) := by decide +kernel
theorem dX10_saysOf_69 : decode cX10_saysOf 69 = .ok (.iload_n 1, 1) := by decide +kernel
theorem dX10_saysOf_70 : decode cX10_saysOf 70 = .ok (.iaload, 1) := by decide +kernel
theorem dX10_saysOf_71 : decode cX10_saysOf 71 = .ok (.invokevirtual 388, 3) := by decide +kernel
theorem dX10_saysOf_74 : decode cX10_saysOf 74 = .ok (.putfield 328, 3) := by decide +kernel
theorem dX10_saysOf_77 : decode cX10_saysOf 77 = .ok (.aload_n 0, 1) := by decide +kernel
theorem dX10_saysOf_78 : decode cX10_saysOf 78 = .ok (.aload_n 0, 1) := by decide +kernel
theorem dX10_saysOf_79 : decode cX10_saysOf 79 = .ok (.getfield 382, 3) := by decide +kernel
theorem dX10_saysOf_82 : decode cX10_saysOf 82 = .ok (.iload_n 2, 1) := by decide +kernel
theorem dX10_saysOf_83 : decode cX10_saysOf 83 = .ok (.invokevirtual 379, 3) := by decide +kernel
theorem dX10_saysOf_86 : decode cX10_saysOf 86 = .ok (.ireturn, 1) := by decide +kernel
theorem dX10_doubtOf_0 : decode cX10_doubtOf 0 = .ok (.aload_n 0, 1) := by decide +kernel
theorem dX10_doubtOf_1 : decode cX10_doubtOf 1 = .ok (.iload_n 1, 1) := by decide +kernel
theorem dX10_doubtOf_2 : decode cX10_doubtOf 2 = .ok (.iconst 0, 1) := by decide +kernel
theorem dX10_doubtOf_3 : decode cX10_doubtOf 3 = .ok (.invokevirtual 391, 3) := by decide +kernel
theorem dX10_doubtOf_6 : decode cX10_doubtOf 6 = .ok (.iconst 0, 1) := by decide +kernel
theorem dX10_doubtOf_7 : decode cX10_doubtOf 7 = .ok (.bipush 99, 2) := by decide +kernel
theorem dX10_doubtOf_9 : decode cX10_doubtOf 9 = .ok (.invokestatic 394, 3) := by decide +kernel
theorem dX10_doubtOf_12 : decode cX10_doubtOf 12 = .ok (.ireturn, 1) := by decide +kernel
theorem dX10_priceOf_0 : decode cX10_priceOf 0 = .ok (.aload_n 0, 1) := by decide +kernel
theorem dX10_priceOf_1 : decode cX10_priceOf 1 = .ok (.iload_n 1, 1) := by decide +kernel
theorem dX10_priceOf_2 : decode cX10_priceOf 2 = .ok (.iconst 1, 1) := by decide +kernel
theorem dX10_priceOf_3 : decode cX10_priceOf 3 = .ok (.invokevirtual 391, 3) := by decide +kernel
theorem dX10_priceOf_6 : decode cX10_priceOf 6 = .ok (.iconst 0, 1) := by decide +kernel
theorem dX10_priceOf_7 : decode cX10_priceOf 7 = .ok (.sipush 9999, 3) := by decide +kernel
theorem dX10_priceOf_10 : decode cX10_priceOf 10 = .ok (.invokestatic 394, 3) := by decide +kernel
theorem dX10_priceOf_13 : decode cX10_priceOf 13 = .ok (.ireturn, 1) := by decide +kernel
theorem dX10_openOf_0 : decode cX10_openOf 0 = .ok (.aload_n 0, 1) := by decide +kernel
theorem dX10_openOf_1 : decode cX10_openOf 1 = .ok (.iload_n 1, 1) := by decide +kernel
theorem dX10_openOf_2 : decode cX10_openOf 2 = .ok (.iconst 2, 1) := by decide +kernel
theorem dX10_openOf_3 : decode cX10_openOf 3 = .ok (.invokevirtual 391, 3) := by decide +kernel
theorem dX10_openOf_6 : decode cX10_openOf 6 = .ok (.iconst 1, 1) := by decide +kernel
theorem dX10_openOf_7 : decode cX10_openOf 7 = .ok (.sipush 999, 3) := by decide +kernel
theorem dX10_openOf_10 : decode cX10_openOf 10 = .ok (.invokestatic 394, 3) := by decide +kernel
theorem dX10_openOf_13 : decode cX10_openOf 13 = .ok (.ireturn, 1) := by decide +kernel
theorem dX10_left_0 : decode cX10_left 0 = .ok (.aload_n 0, 1) := by decide +kernel
theorem dX10_left_1 : decode cX10_left 1 = .ok (.iload_n 1, 1) := by decide +kernel
theorem dX10_left_2 : decode cX10_left 2 = .ok (.invokevirtual 165, 3) := by decide +kernel
theorem dX10_left_5 : decode cX10_left 5 = .ok (.ifCond .eq 15, 3) := by decide +kernel
theorem dX10_left_8 : decode cX10_left 8 = .ok (.iload_n 2, 1) := by decide +kernel
theorem dX10_left_9 : decode cX10_left 9 = .ok (.i2l, 1) := by decide +kernel
theorem dX10_left_10 : decode cX10_left 10 = .ok (.lconst 0, 1) := by decide +kernel
theorem dX10_left_11 : decode cX10_left 11 = .ok (.ldc2_w 168, 3) := by decide +kernel
theorem dX10_left_14 : decode cX10_left 14 = .ok (.invokestatic 149, 3) := by decide +kernel
theorem dX10_left_17 : decode cX10_left 17 = .ok (.ifCond .ne 6, 3) := by decide +kernel
theorem dX10_left_20 : decode cX10_left 20 = .ok (.bipush (-2), 2) := by decide +kernel
theorem dX10_left_22 : decode cX10_left 22 = .ok (.ireturn, 1) := by decide +kernel
theorem dX10_left_23 : decode cX10_left 23 = .ok (.aload_n 0, 1) := by decide +kernel
theorem dX10_left_24 : decode cX10_left 24 = .ok (.getfield 26, 3) := by decide +kernel
theorem dX10_left_27 : decode cX10_left 27 = .ok (.iload_n 1, 1) := by decide +kernel
theorem dX10_left_28 : decode cX10_left 28 = .ok (.iaload, 1) := by decide +kernel
theorem dX10_left_29 : decode cX10_left 29 = .ok (.aload_n 0, 1) := by decide +kernel
theorem dX10_left_30 : decode cX10_left 30 = .ok (.getfield 29, 3) := by decide +kernel
theorem dX10_left_33 : decode cX10_left 33 = .ok (.iload_n 1, 1) := by decide +kernel
theorem dX10_left_34 : decode cX10_left 34 = .ok (.iaload, 1) := by decide +kernel
theorem dX10_left_35 : decode cX10_left 35 = .ok (.if_icmp .le 19, 3) := by decide +kernel
theorem dX10_left_38 : decode cX10_left 38 = .ok (.aload_n 0, 1) := by decide +kernel
theorem dX10_left_39 : decode cX10_left 39 = .ok (.getfield 26, 3) := by decide +kernel
theorem dX10_left_42 : decode cX10_left 42 = .ok (.iload_n 1, 1) := by decide +kernel
theorem dX10_left_43 : decode cX10_left 43 = .ok (.iaload, 1) := by decide +kernel
theorem dX10_left_44 : decode cX10_left 44 = .ok (.aload_n 0, 1) := by decide +kernel
theorem dX10_left_45 : decode cX10_left 45 = .ok (.getfield 29, 3) := by decide +kernel
theorem dX10_left_48 : decode cX10_left 48 = .ok (.iload_n 1, 1) := by decide +kernel
theorem dX10_left_49 : decode cX10_left 49 = .ok (.iaload, 1) := by decide +kernel
theorem dX10_left_50 : decode cX10_left 50 = .ok (.isub, 1) := by decide +kernel
theorem dX10_left_51 : decode cX10_left 51 = .ok (.goto 4, 3) := by decide +kernel
theorem dX10_left_54 : decode cX10_left 54 = .ok (.iconst 0, 1) := by decide +kernel
theorem dX10_left_55 : decode cX10_left 55 = .ok (.istore_n 3, 1) := by decide +kernel
theorem dX10_left_56 : decode cX10_left 56 = .ok (.aload_n 0, 1) := by decide +kernel
theorem dX10_left_57 : decode cX10_left 57 = .ok (.iload_n 1, 1) := by decide +kernel
theorem dX10_left_58 : decode cX10_left 58 = .ok (.invokevirtual 388, 3) := by decide +kernel
theorem dX10_left_61 : decode cX10_left 61 = .ok (.istore 4, 2) := by decide +kernel
theorem dX10_left_63 : decode cX10_left 63 = .ok (.iload_n 2, 1) := by decide +kernel
theorem dX10_left_64 : decode cX10_left 64 = .ok (.ifCond .ne 7, 3) := by decide +kernel
theorem dX10_left_67 : decode cX10_left 67 = .ok (.iload_n 3, 1) := by decide +kernel
theorem dX10_left_68 : decode cX10_left 68 = .ok (.goto 27, 3) := by decide +kernel
theorem dX10_left_71 : decode cX10_left 71 = .ok (.iload_n 2, 1) := by decide +kernel
theorem dX10_left_72 : decode cX10_left 72 = .ok (.iconst 2, 1) := by decide +kernel
theorem dX10_left_73 : decode cX10_left 73 = .ok (.if_icmp .ne 8, 3) := by decide +kernel
theorem dX10_left_76 : decode cX10_left 76 = .ok (.iload 4, 2) := by decide +kernel
theorem dX10_left_78 : decode cX10_left 78 = .ok (.goto 17, 3) := by decide +kernel
theorem dX10_left_81 : decode cX10_left 81 = .ok (.iload 4, 2) := by decide +kernel
theorem dX10_left_83 : decode cX10_left 83 = .ok (.iload_n 3, 1) := by decide +kernel
theorem dX10_left_84 : decode cX10_left 84 = .ok (.if_icmp .le 10, 3) := by decide +kernel
theorem dX10_left_87 : decode cX10_left 87 = .ok (.iload 4, 2) := by decide +kernel
theorem dX10_left_89 : decode cX10_left 89 = .ok (.iload_n 3, 1) := by decide +kernel
theorem dX10_left_90 : decode cX10_left 90 = .ok (.isub, 1) := by decide +kernel
theorem dX10_left_91 : decode cX10_left 91 = .ok (.goto 4, 3) := by decide +kernel
theorem dX10_left_94 : decode cX10_left 94 = .ok (.iconst 0, 1) := by decide +kernel
theorem dX10_left_95 : decode cX10_left 95 = .ok (.ireturn, 1) := by decide +kernel
theorem dX10_common_0 : decode cX10_common 0 = .ok (.lload_n 0, 1) := by decide +kernel
theorem dX10_common_1 : decode cX10_common 1 = .ok (.lconst 0, 1) := by decide +kernel
theorem dX10_common_2 : decode cX10_common 2 = .ok (.lcmp, 1) := by decide +kernel
theorem dX10_common_3 : decode cX10_common 3 = .ok (.ifCond .ge 8, 3) := by decide +kernel
theorem dX10_common_6 : decode cX10_common 6 = .ok (.lload_n 0, 1) := by decide +kernel
theorem dX10_common_7 : decode cX10_common 7 = .ok (.lneg, 1) := by decide +kernel
theorem dX10_common_8 : decode cX10_common 8 = .ok (.goto 4, 3) := by decide +kernel
theorem dX10_common_11 : decode cX10_common 11 = .ok (.lload_n 0, 1) := by decide +kernel
theorem dX10_common_12 : decode cX10_common 12 = .ok (.lstore 4, 2) := by decide +kernel
theorem dX10_common_14 : decode cX10_common 14 = .ok (.lload_n 2, 1) := by decide +kernel
theorem dX10_common_15 : decode cX10_common 15 = .ok (.lstore 6, 2) := by decide +kernel
theorem dX10_common_17 : decode cX10_common 17 = .ok (.lload 6, 2) := by decide +kernel
theorem dX10_common_19 : decode cX10_common 19 = .ok (.lconst 0, 1) := by decide +kernel
theorem dX10_common_20 : decode cX10_common 20 = .ok (.lcmp, 1) := by decide +kernel
theorem dX10_common_21 : decode cX10_common 21 = .ok (.ifCond .eq 21, 3) := by decide +kernel
theorem dX10_common_24 : decode cX10_common 24 = .ok (.lload 4, 2) := by decide +kernel
theorem dX10_common_26 : decode cX10_common 26 = .ok (.lload 6, 2) := by decide +kernel
theorem dX10_common_28 : decode cX10_common 28 = .ok (.lrem, 1) := by decide +kernel
theorem dX10_common_29 : decode cX10_common 29 = .ok (.lstore 8, 2) := by decide +kernel
theorem dX10_common_31 : decode cX10_common 31 = .ok (.lload 6, 2) := by decide +kernel
theorem dX10_common_33 : decode cX10_common 33 = .ok (.lstore 4, 2) := by decide +kernel
theorem dX10_common_35 : decode cX10_common 35 = .ok (.lload 8, 2) := by decide +kernel
theorem dX10_common_37 : decode cX10_common 37 = .ok (.lstore 6, 2) := by decide +kernel
theorem dX10_common_39 : decode cX10_common 39 = .ok (.goto (-22), 3) := by decide +kernel
theorem dX10_common_42 : decode cX10_common 42 = .ok (.lload 4, 2) := by decide +kernel
theorem dX10_common_44 : decode cX10_common 44 = .ok (.lreturn, 1) := by decide +kernel
theorem dX10_odds_0 : decode cX10_odds 0 = .ok (.aload_n 0, 1) := by decide +kernel
theorem dX10_odds_1 : decode cX10_odds 1 = .ok (.iload_n 1, 1) := by decide +kernel
theorem dX10_odds_2 : decode cX10_odds 2 = .ok (.invokevirtual 186, 3) := by decide +kernel
theorem dX10_odds_5 : decode cX10_odds 5 = .ok (.ifCond .eq 13, 3) := by decide +kernel
theorem dX10_odds_8 : decode cX10_odds 8 = .ok (.iload_n 2, 1) := by decide +kernel
theorem dX10_odds_9 : decode cX10_odds 9 = .ok (.i2l, 1) := by decide +kernel
theorem dX10_odds_10 : decode cX10_odds 10 = .ok (.lconst 0, 1) := by decide +kernel
theorem dX10_odds_11 : decode cX10_odds 11 = .ok (.lconst 1, 1) := by decide +kernel
theorem dX10_odds_12 : decode cX10_odds 12 = .ok (.invokestatic 149, 3) := by decide +kernel
theorem dX10_odds_15 : decode cX10_odds 15 = .ok (.ifCond .ne 7, 3) := by decide +kernel
theorem dX10_odds_18 : decode cX10_odds 18 = .ok (.ldc2_w 398, 3) := by decide +kernel
theorem dX10_odds_21 : decode cX10_odds 21 = .ok (.lreturn, 1) := by decide +kernel
theorem dX10_odds_22 : decode cX10_odds 22 = .ok (.aload_n 0, 1) := by decide +kernel
theorem dX10_odds_23 : decode cX10_odds 23 = .ok (.iload_n 1, 1) := by decide +kernel
theorem dX10_odds_24 : decode cX10_odds 24 = .ok (.invokevirtual 209, 3) := by decide +kernel
end
section
theorem dX10_odds_27 : decode cX10_odds 27 = .ok (.ifCond .eq 6, 3) := by decide +kernel
theorem dX10_odds_30 : decode cX10_odds 30 = .ok (.iload_n 2, 1) := by decide +kernel
theorem dX10_odds_31 : decode cX10_odds 31 = .ok (.i2l, 1) := by decide +kernel
theorem dX10_odds_32 : decode cX10_odds 32 = .ok (.lreturn, 1) := by decide +kernel
theorem dX10_odds_33 : decode cX10_odds 33 = .ok (.aload_n 0, 1) := by decide +kernel
theorem dX10_odds_34 : decode cX10_odds 34 = .ok (.iload_n 1, 1) := by decide +kernel
theorem dX10_odds_35 : decode cX10_odds 35 = .ok (.invokevirtual 221, 3) := by decide +kernel
theorem dX10_odds_38 : decode cX10_odds 38 = .ok (.istore_n 3, 1) := by decide +kernel
theorem dX10_odds_39 : decode cX10_odds 39 = .ok (.iconst 1, 1) := by decide +kernel
theorem dX10_odds_40 : decode cX10_odds 40 = .ok (.invokestatic 215, 3) := by decide +kernel
theorem dX10_odds_43 : decode cX10_odds 43 = .ok (.i2l, 1) := by decide +kernel
theorem dX10_odds_44 : decode cX10_odds 44 = .ok (.bipush 100, 2) := by decide +kernel
theorem dX10_odds_46 : decode cX10_odds 46 = .ok (.iload_n 3, 1) := by decide +kernel
theorem dX10_odds_47 : decode cX10_odds 47 = .ok (.isub, 1) := by decide +kernel
theorem dX10_odds_48 : decode cX10_odds 48 = .ok (.i2l, 1) := by decide +kernel
theorem dX10_odds_49 : decode cX10_odds 49 = .ok (.lmul, 1) := by decide +kernel
theorem dX10_odds_50 : decode cX10_odds 50 = .ok (.lstore 4, 2) := by decide +kernel
theorem dX10_odds_52 : decode cX10_odds 52 = .ok (.aload_n 0, 1) := by decide +kernel
theorem dX10_odds_53 : decode cX10_odds 53 = .ok (.getfield 47, 3) := by decide +kernel
theorem dX10_odds_56 : decode cX10_odds 56 = .ok (.iload_n 1, 1) := by decide +kernel
theorem dX10_odds_57 : decode cX10_odds 57 = .ok (.iaload, 1) := by decide +kernel
theorem dX10_odds_58 : decode cX10_odds 58 = .ok (.iconst 1, 1) := by decide +kernel
theorem dX10_odds_59 : decode cX10_odds 59 = .ok (.if_icmp .eq 13, 3) := by decide +kernel
theorem dX10_odds_62 : decode cX10_odds 62 = .ok (.aload_n 0, 1) := by decide +kernel
theorem dX10_odds_63 : decode cX10_odds 63 = .ok (.getfield 47, 3) := by decide +kernel
theorem dX10_odds_66 : decode cX10_odds 66 = .ok (.iload_n 1, 1) := by decide +kernel
theorem dX10_odds_67 : decode cX10_odds 67 = .ok (.iaload, 1) := by decide +kernel
theorem dX10_odds_68 : decode cX10_odds 68 = .ok (.iconst 3, 1) := by decide +kernel
theorem dX10_odds_69 : decode cX10_odds 69 = .ok (.if_icmp .ne 7, 3) := by decide +kernel
theorem dX10_odds_72 : decode cX10_odds 72 = .ok (.iconst 5, 1) := by decide +kernel
theorem dX10_odds_73 : decode cX10_odds 73 = .ok (.goto 9, 3) := by decide +kernel
theorem dX10_odds_76 : decode cX10_odds 76 = .ok (.aload_n 0, 1) := by decide +kernel
theorem dX10_odds_77 : decode cX10_odds 77 = .ok (.getfield 47, 3) := by decide +kernel
theorem dX10_odds_80 : decode cX10_odds 80 = .ok (.iload_n 1, 1) := by decide +kernel
theorem dX10_odds_81 : decode cX10_odds 81 = .ok (.iaload, 1) := by decide +kernel
theorem dX10_odds_82 : decode cX10_odds 82 = .ok (.invokestatic 215, 3) := by decide +kernel
theorem dX10_odds_85 : decode cX10_odds 85 = .ok (.i2l, 1) := by decide +kernel
theorem dX10_odds_86 : decode cX10_odds 86 = .ok (.iload_n 3, 1) := by decide +kernel
theorem dX10_odds_87 : decode cX10_odds 87 = .ok (.iconst 1, 1) := by decide +kernel
theorem dX10_odds_88 : decode cX10_odds 88 = .ok (.iadd, 1) := by decide +kernel
theorem dX10_odds_89 : decode cX10_odds 89 = .ok (.i2l, 1) := by decide +kernel
theorem dX10_odds_90 : decode cX10_odds 90 = .ok (.lmul, 1) := by decide +kernel
theorem dX10_odds_91 : decode cX10_odds 91 = .ok (.lstore 6, 2) := by decide +kernel
theorem dX10_odds_93 : decode cX10_odds 93 = .ok (.lload 4, 2) := by decide +kernel
theorem dX10_odds_95 : decode cX10_odds 95 = .ok (.lload 6, 2) := by decide +kernel
theorem dX10_odds_97 : decode cX10_odds 97 = .ok (.ladd, 1) := by decide +kernel
theorem dX10_odds_98 : decode cX10_odds 98 = .ok (.lstore 8, 2) := by decide +kernel
theorem dX10_odds_100 : decode cX10_odds 100 = .ok (.iload_n 2, 1) := by decide +kernel
theorem dX10_odds_101 : decode cX10_odds 101 = .ok (.ifCond .ne 8, 3) := by decide +kernel
theorem dX10_odds_104 : decode cX10_odds 104 = .ok (.lload 4, 2) := by decide +kernel
theorem dX10_odds_106 : decode cX10_odds 106 = .ok (.goto 5, 3) := by decide +kernel
theorem dX10_odds_109 : decode cX10_odds 109 = .ok (.lload 8, 2) := by decide +kernel
theorem dX10_odds_111 : decode cX10_odds 111 = .ok (.lload 4, 2) := by decide +kernel
theorem dX10_odds_113 : decode cX10_odds 113 = .ok (.lload 8, 2) := by decide +kernel
theorem dX10_odds_115 : decode cX10_odds 115 = .ok (.invokestatic 400, 3) := by decide +kernel
theorem dX10_odds_118 : decode cX10_odds 118 = .ok (.ldiv, 1) := by decide +kernel
theorem dX10_odds_119 : decode cX10_odds 119 = .ok (.lreturn, 1) := by decide +kernel
theorem dX10_salesBy_0 : decode cX10_salesBy 0 = .ok (.iconst 0, 1) := by decide +kernel
theorem dX10_salesBy_1 : decode cX10_salesBy 1 = .ok (.istore_n 2, 1) := by decide +kernel
theorem dX10_salesBy_2 : decode cX10_salesBy 2 = .ok (.iconst 0, 1) := by decide +kernel
theorem dX10_salesBy_3 : decode cX10_salesBy 3 = .ok (.istore_n 3, 1) := by decide +kernel
theorem dX10_salesBy_4 : decode cX10_salesBy 4 = .ok (.iload_n 3, 1) := by decide +kernel
theorem dX10_salesBy_5 : decode cX10_salesBy 5 = .ok (.aload_n 0, 1) := by decide +kernel
theorem dX10_salesBy_6 : decode cX10_salesBy 6 = .ok (.getfield 232, 3) := by decide +kernel
theorem dX10_salesBy_9 : decode cX10_salesBy 9 = .ok (.if_icmp .ge 27, 3) := by decide +kernel
theorem dX10_salesBy_12 : decode cX10_salesBy 12 = .ok (.iload_n 2, 1) := by decide +kernel
theorem dX10_salesBy_13 : decode cX10_salesBy 13 = .ok (.aload_n 0, 1) := by decide +kernel
theorem dX10_salesBy_14 : decode cX10_salesBy 14 = .ok (.getfield 62, 3) := by decide +kernel
theorem dX10_salesBy_17 : decode cX10_salesBy 17 = .ok (.iload_n 3, 1) := by decide +kernel
theorem dX10_salesBy_18 : decode cX10_salesBy 18 = .ok (.iaload, 1) := by decide +kernel
theorem dX10_salesBy_19 : decode cX10_salesBy 19 = .ok (.iload_n 1, 1) := by decide +kernel
theorem dX10_salesBy_20 : decode cX10_salesBy 20 = .ok (.if_icmp .ne 7, 3) := by decide +kernel
theorem dX10_salesBy_23 : decode cX10_salesBy 23 = .ok (.iconst 1, 1) := by decide +kernel
theorem dX10_salesBy_24 : decode cX10_salesBy 24 = .ok (.goto 4, 3) := by decide +kernel
theorem dX10_salesBy_27 : decode cX10_salesBy 27 = .ok (.iconst 0, 1) := by decide +kernel
theorem dX10_salesBy_28 : decode cX10_salesBy 28 = .ok (.iadd, 1) := by decide +kernel
theorem dX10_salesBy_29 : decode cX10_salesBy 29 = .ok (.istore_n 2, 1) := by decide +kernel
theorem dX10_salesBy_30 : decode cX10_salesBy 30 = .ok (.iinc 3 1, 3) := by decide +kernel
theorem dX10_salesBy_33 : decode cX10_salesBy 33 = .ok (.goto (-29), 3) := by decide +kernel
theorem dX10_salesBy_36 : decode cX10_salesBy 36 = .ok (.iload_n 2, 1) := by decide +kernel
theorem dX10_salesBy_37 : decode cX10_salesBy 37 = .ok (.ireturn, 1) := by decide +kernel
theorem dX10_barredBy_0 : decode cX10_barredBy 0 = .ok (.iconst 0, 1) := by decide +kernel
theorem dX10_barredBy_1 : decode cX10_barredBy 1 = .ok (.istore_n 2, 1) := by decide +kernel
theorem dX10_barredBy_2 : decode cX10_barredBy 2 = .ok (.iconst 0, 1) := by decide +kernel
theorem dX10_barredBy_3 : decode cX10_barredBy 3 = .ok (.istore_n 3, 1) := by decide +kernel
theorem dX10_barredBy_4 : decode cX10_barredBy 4 = .ok (.iload_n 3, 1) := by decide +kernel
theorem dX10_barredBy_5 : decode cX10_barredBy 5 = .ok (.aload_n 0, 1) := by decide +kernel
theorem dX10_barredBy_6 : decode cX10_barredBy 6 = .ok (.getfield 232, 3) := by decide +kernel
theorem dX10_barredBy_9 : decode cX10_barredBy 9 = .ok (.if_icmp .ge 40, 3) := by decide +kernel
theorem dX10_barredBy_12 : decode cX10_barredBy 12 = .ok (.iload_n 2, 1) := by decide +kernel
theorem dX10_barredBy_13 : decode cX10_barredBy 13 = .ok (.aload_n 0, 1) := by decide +kernel
theorem dX10_barredBy_14 : decode cX10_barredBy 14 = .ok (.getfield 62, 3) := by decide +kernel
theorem dX10_barredBy_17 : decode cX10_barredBy 17 = .ok (.iload_n 3, 1) := by decide +kernel
theorem dX10_barredBy_18 : decode cX10_barredBy 18 = .ok (.iaload, 1) := by decide +kernel
theorem dX10_barredBy_19 : decode cX10_barredBy 19 = .ok (.iload_n 1, 1) := by decide +kernel
theorem dX10_barredBy_20 : decode cX10_barredBy 20 = .ok (.if_icmp .ne 20, 3) := by decide +kernel
theorem dX10_barredBy_23 : decode cX10_barredBy 23 = .ok (.aload_n 0, 1) := by decide +kernel
theorem dX10_barredBy_24 : decode cX10_barredBy 24 = .ok (.aload_n 0, 1) := by decide +kernel
theorem dX10_barredBy_25 : decode cX10_barredBy 25 = .ok (.getfield 59, 3) := by decide +kernel
theorem dX10_barredBy_28 : decode cX10_barredBy 28 = .ok (.iload_n 3, 1) := by decide +kernel
theorem dX10_barredBy_29 : decode cX10_barredBy 29 = .ok (.iaload, 1) := by decide +kernel
theorem dX10_barredBy_30 : decode cX10_barredBy 30 = .ok (.invokevirtual 209, 3) := by decide +kernel
theorem dX10_barredBy_33 : decode cX10_barredBy 33 = .ok (.ifCond .eq 7, 3) := by decide +kernel
theorem dX10_barredBy_36 : decode cX10_barredBy 36 = .ok (.iconst 1, 1) := by decide +kernel
theorem dX10_barredBy_37 : decode cX10_barredBy 37 = .ok (.goto 4, 3) := by decide +kernel
theorem dX10_barredBy_40 : decode cX10_barredBy 40 = .ok (.iconst 0, 1) := by decide +kernel
theorem dX10_barredBy_41 : decode cX10_barredBy 41 = .ok (.iadd, 1) := by decide +kernel
theorem dX10_barredBy_42 : decode cX10_barredBy 42 = .ok (.istore_n 2, 1) := by decide +kernel
theorem dX10_barredBy_43 : decode cX10_barredBy 43 = .ok (.iinc 3 1, 3) := by decide +kernel
theorem dX10_barredBy_46 : decode cX10_barredBy 46 = .ok (.goto (-42), 3) := by decide +kernel
theorem dX10_barredBy_49 : decode cX10_barredBy 49 = .ok (.iload_n 2, 1) := by decide +kernel
theorem dX10_barredBy_50 : decode cX10_barredBy 50 = .ok (.ireturn, 1) := by decide +kernel
theorem dX10_isHand_0 : decode cX10_isHand 0 = .ok (.iload_n 0, 1) := by decide +kernel
theorem dX10_isHand_1 : decode cX10_isHand 1 = .ok (.i2l, 1) := by decide +kernel
theorem dX10_isHand_2 : decode cX10_isHand 2 = .ok (.lconst 0, 1) := by decide +kernel
theorem dX10_isHand_3 : decode cX10_isHand 3 = .ok (.ldc2_w 404, 3) := by decide +kernel
theorem dX10_isHand_6 : decode cX10_isHand 6 = .ok (.invokestatic 149, 3) := by decide +kernel
theorem dX10_isHand_9 : decode cX10_isHand 9 = .ok (.ireturn, 1) := by decide +kernel
theorem dX10_source_0 : decode cX10_source 0 = .ok (.iload_n 1, 1) := by decide +kernel
theorem dX10_source_1 : decode cX10_source 1 = .ok (.invokestatic 406, 3) := by decide +kernel
theorem dX10_source_4 : decode cX10_source 4 = .ok (.ifCond .eq 13, 3) := by decide +kernel
theorem dX10_source_7 : decode cX10_source 7 = .ok (.iload_n 2, 1) := by decide +kernel
theorem dX10_source_8 : decode cX10_source 8 = .ok (.i2l, 1) := by decide +kernel
theorem dX10_source_9 : decode cX10_source 9 = .ok (.lconst 0, 1) := by decide +kernel
theorem dX10_source_10 : decode cX10_source 10 = .ok (.lconst 1, 1) := by decide +kernel
theorem dX10_source_11 : decode cX10_source 11 = .ok (.invokestatic 149, 3) := by decide +kernel
theorem dX10_source_14 : decode cX10_source 14 = .ok (.ifCond .ne 6, 3) := by decide +kernel
theorem dX10_source_17 : decode cX10_source 17 = .ok (.bipush (-2), 2) := by decide +kernel
theorem dX10_source_19 : decode cX10_source 19 = .ok (.ireturn, 1) := by decide +kernel
theorem dX10_source_20 : decode cX10_source 20 = .ok (.iload_n 2, 1) := by decide +kernel
theorem dX10_source_21 : decode cX10_source 21 = .ok (.ifCond .ne 11, 3) := by decide +kernel
theorem dX10_source_24 : decode cX10_source 24 = .ok (.aload_n 0, 1) := by decide +kernel
theorem dX10_source_25 : decode cX10_source 25 = .ok (.iload_n 1, 1) := by decide +kernel
theorem dX10_source_26 : decode cX10_source 26 = .ok (.invokevirtual 409, 3) := by decide +kernel
theorem dX10_source_29 : decode cX10_source 29 = .ok (.goto 8, 3) := by decide +kernel
theorem dX10_source_32 : decode cX10_source 32 = .ok (.aload_n 0, 1) := by decide +kernel
theorem dX10_source_33 : decode cX10_source 33 = .ok (.iload_n 1, 1) := by decide +kernel
theorem dX10_source_34 : decode cX10_source 34 = .ok (.invokevirtual 412, 3) := by decide +kernel
theorem dX10_source_37 : decode cX10_source 37 = .ok (.ireturn, 1) := by decide +kernel
theorem dX10_worst_0 : decode cX10_worst 0 = .ok (.iconst (-1), 1) := by decide +kernel
theorem dX10_worst_1 : decode cX10_worst 1 = .ok (.istore_n 1, 1) := by decide +kernel
theorem dX10_worst_2 : decode cX10_worst 2 = .ok (.iconst 0, 1) := by decide +kernel
theorem dX10_worst_3 : decode cX10_worst 3 = .ok (.istore_n 2, 1) := by decide +kernel
theorem dX10_worst_4 : decode cX10_worst 4 = .ok (.iload_n 2, 1) := by decide +kernel
theorem dX10_worst_5 : decode cX10_worst 5 = .ok (.bipush 10, 2) := by decide +kernel
theorem dX10_worst_7 : decode cX10_worst 7 = .ok (.if_icmp .ge 78, 3) := by decide +kernel
theorem dX10_worst_10 : decode cX10_worst 10 = .ok (.aload_n 0, 1) := by decide +kernel
theorem dX10_worst_11 : decode cX10_worst 11 = .ok (.iload_n 2, 1) := by decide +kernel
theorem dX10_worst_12 : decode cX10_worst 12 = .ok (.invokevirtual 409, 3) := by decide +kernel
theorem dX10_worst_15 : decode cX10_worst 15 = .ok (.istore_n 3, 1) := by decide +kernel
theorem dX10_worst_16 : decode cX10_worst 16 = .ok (.iload_n 3, 1) := by decide +kernel
theorem dX10_worst_17 : decode cX10_worst 17 = .ok (.ifCond .ne 6, 3) := by decide +kernel
theorem dX10_worst_20 : decode cX10_worst 20 = .ok (.goto 59, 3) := by decide +kernel
theorem dX10_worst_23 : decode cX10_worst 23 = .ok (.iload_n 1, 1) := by decide +kernel
theorem dX10_worst_24 : decode cX10_worst 24 = .ok (.iconst (-1), 1) := by decide +kernel
theorem dX10_worst_25 : decode cX10_worst 25 = .ok (.if_icmp .ne 8, 3) := by decide +kernel
theorem dX10_worst_28 : decode cX10_worst 28 = .ok (.iload_n 2, 1) := by decide +kernel
theorem dX10_worst_29 : decode cX10_worst 29 = .ok (.istore_n 1, 1) := by decide +kernel
theorem dX10_worst_30 : decode cX10_worst 30 = .ok (.goto 49, 3) := by decide +kernel
theorem dX10_worst_33 : decode cX10_worst 33 = .ok (.aload_n 0, 1) := by decide +kernel
theorem dX10_worst_34 : decode cX10_worst 34 = .ok (.iload_n 2, 1) := by decide +kernel
theorem dX10_worst_35 : decode cX10_worst 35 = .ok (.invokevirtual 412, 3) := by decide +kernel
theorem dX10_worst_38 : decode cX10_worst 38 = .ok (.aload_n 0, 1) := by decide +kernel
theorem dX10_worst_39 : decode cX10_worst 39 = .ok (.iload_n 1, 1) := by decide +kernel
theorem dX10_worst_40 : decode cX10_worst 40 = .ok (.invokevirtual 409, 3) := by decide +kernel
theorem dX10_worst_43 : decode cX10_worst 43 = .ok (.imul, 1) := by decide +kernel
theorem dX10_worst_44 : decode cX10_worst 44 = .ok (.aload_n 0, 1) := by decide +kernel
theorem dX10_worst_45 : decode cX10_worst 45 = .ok (.iload_n 1, 1) := by decide +kernel
theorem dX10_worst_46 : decode cX10_worst 46 = .ok (.invokevirtual 412, 3) := by decide +kernel
theorem dX10_worst_49 : decode cX10_worst 49 = .ok (.iload_n 3, 1) := by decide +kernel
theorem dX10_worst_50 : decode cX10_worst 50 = .ok (.imul, 1) := by decide +kernel
theorem dX10_worst_51 : decode cX10_worst 51 = .ok (.isub, 1) := by decide +kernel
theorem dX10_worst_52 : decode cX10_worst 52 = .ok (.istore 4, 2) := by decide +kernel
theorem dX10_worst_54 : decode cX10_worst 54 = .ok (.iload 4, 2) := by decide +kernel
theorem dX10_worst_56 : decode cX10_worst 56 = .ok (.ifCond .gt 17, 3) := by decide +kernel
theorem dX10_worst_59 : decode cX10_worst 59 = .ok (.iload 4, 2) := by decide +kernel
theorem dX10_worst_61 : decode cX10_worst 61 = .ok (.ifCond .ne 16, 3) := by decide +kernel
theorem dX10_worst_64 : decode cX10_worst 64 = .ok (.iload_n 3, 1) := by decide +kernel
theorem dX10_worst_65 : decode cX10_worst 65 = .ok (.aload_n 0, 1) := by decide +kernel
theorem dX10_worst_66 : decode cX10_worst 66 = .ok (.iload_n 1, 1) := by decide +kernel
theorem dX10_worst_67 : decode cX10_worst 67 = .ok (.invokevirtual 409, 3) := by decide +kernel
theorem dX10_worst_70 : decode cX10_worst 70 = .ok (.if_icmp .le 7, 3) := by decide +kernel
theorem dX10_worst_73 : decode cX10_worst 73 = .ok (.iload_n 2, 1) := by decide +kernel
theorem dX10_worst_74 : decode cX10_worst 74 = .ok (.goto 4, 3) := by decide +kernel
theorem dX10_worst_77 : decode cX10_worst 77 = .ok (.iload_n 1, 1) := by decide +kernel
theorem dX10_worst_78 : decode cX10_worst 78 = .ok (.istore_n 1, 1) := by decide +kernel
theorem dX10_worst_79 : decode cX10_worst 79 = .ok (.iinc 2 1, 3) := by decide +kernel
theorem dX10_worst_82 : decode cX10_worst 82 = .ok (.goto (-78), 3) := by decide +kernel
theorem dX10_worst_85 : decode cX10_worst 85 = .ok (.iload_n 1, 1) := by decide +kernel
theorem dX10_worst_86 : decode cX10_worst 86 = .ok (.ireturn, 1) := by decide +kernel
theorem dX10_farOf_0 : decode cX10_farOf 0 = .ok (.iconst 0, 1) := by decide +kernel
theorem dX10_farOf_1 : decode cX10_farOf 1 = .ok (.istore 5, 2) := by decide +kernel
theorem dX10_farOf_3 : decode cX10_farOf 3 = .ok (.iconst 0, 1) := by decide +kernel
theorem dX10_farOf_4 : decode cX10_farOf 4 = .ok (.istore 6, 2) := by decide +kernel
theorem dX10_farOf_6 : decode cX10_farOf 6 = .ok (.iload 6, 2) := by decide +kernel
theorem dX10_farOf_8 : decode cX10_farOf 8 = .ok (.iconst 3, 1) := by decide +kernel
theorem dX10_farOf_9 : decode cX10_farOf 9 = .ok (.if_icmp .ge 64, 3) := by decide +kernel
theorem dX10_farOf_12 : decode cX10_farOf 12 = .ok (.iload 4, 2) := by decide +kernel
theorem dX10_farOf_14 : decode cX10_farOf 14 = .ok (.aload_n 0, 1) := by decide +kernel
theorem dX10_farOf_15 : decode cX10_farOf 15 = .ok (.iload_n 1, 1) := by decide +kernel
theorem dX10_farOf_16 : decode cX10_farOf 16 = .ok (.iload 6, 2) := by decide +kernel
theorem dX10_farOf_18 : decode cX10_farOf 18 = .ok (.invokevirtual 183, 3) := by decide +kernel
theorem dX10_farOf_21 : decode cX10_farOf 21 = .ok (.imul, 1) := by decide +kernel
theorem dX10_farOf_22 : decode cX10_farOf 22 = .ok (.bipush 10, 2) := by decide +kernel
theorem dX10_farOf_24 : decode cX10_farOf 24 = .ok (.iload 4, 2) := by decide +kernel
theorem dX10_farOf_26 : decode cX10_farOf 26 = .ok (.isub, 1) := by decide +kernel
theorem dX10_farOf_27 : decode cX10_farOf 27 = .ok (.aload_n 0, 1) := by decide +kernel
theorem dX10_farOf_28 : decode cX10_farOf 28 = .ok (.iload_n 2, 1) := by decide +kernel
theorem dX10_farOf_29 : decode cX10_farOf 29 = .ok (.iload 6, 2) := by decide +kernel
theorem dX10_farOf_31 : decode cX10_farOf 31 = .ok (.invokevirtual 183, 3) := by decide +kernel
theorem dX10_farOf_34 : decode cX10_farOf 34 = .ok (.imul, 1) := by decide +kernel
theorem dX10_farOf_35 : decode cX10_farOf 35 = .ok (.iadd, 1) := by decide +kernel
theorem dX10_farOf_36 : decode cX10_farOf 36 = .ok (.bipush 10, 2) := by decide +kernel
theorem dX10_farOf_38 : decode cX10_farOf 38 = .ok (.idiv, 1) := by decide +kernel
theorem dX10_farOf_39 : decode cX10_farOf 39 = .ok (.aload_n 0, 1) := by decide +kernel
theorem dX10_farOf_40 : decode cX10_farOf 40 = .ok (.iload_n 3, 1) := by decide +kernel
theorem dX10_farOf_41 : decode cX10_farOf 41 = .ok (.iload 6, 2) := by decide +kernel
theorem dX10_farOf_43 : decode cX10_farOf 43 = .ok (.invokevirtual 183, 3) := by decide +kernel
theorem dX10_farOf_46 : decode cX10_farOf 46 = .ok (.isub, 1) := by decide +kernel
theorem dX10_farOf_47 : decode cX10_farOf 47 = .ok (.istore 7, 2) := by decide +kernel
theorem dX10_farOf_49 : decode cX10_farOf 49 = .ok (.iload 5, 2) := by decide +kernel
theorem dX10_farOf_51 : decode cX10_farOf 51 = .ok (.iload 7, 2) := by decide +kernel
theorem dX10_farOf_53 : decode cX10_farOf 53 = .ok (.ifCond .ge 9, 3) := by decide +kernel
theorem dX10_farOf_56 : decode cX10_farOf 56 = .ok (.iload 7, 2) := by decide +kernel
theorem dX10_farOf_58 : decode cX10_farOf 58 = .ok (.ineg, 1) := by decide +kernel
theorem dX10_farOf_59 : decode cX10_farOf 59 = .ok (.goto 5, 3) := by decide +kernel
theorem dX10_farOf_62 : decode cX10_farOf 62 = .ok (.iload 7, 2) := by decide +kernel
theorem dX10_farOf_64 : decode cX10_farOf 64 = .ok (.iadd, 1) := by decide +kernel
theorem dX10_farOf_65 : decode cX10_farOf 65 = .ok (.istore 5, 2) := by decide +kernel
theorem dX10_farOf_67 : decode cX10_farOf 67 = .ok (.iinc 6 1, 3) := by decide +kernel
theorem dX10_farOf_70 : decode cX10_farOf 70 = .ok (.goto (-64), 3) := by decide +kernel
theorem dX10_farOf_73 : decode cX10_farOf 73 = .ok (.iload 5, 2) := by decide +kernel
theorem dX10_farOf_75 : decode cX10_farOf 75 = .ok (.ireturn, 1) := by decide +kernel
theorem dX10_mix_0 : decode cX10_mix 0 = .ok (.aload_n 0, 1) := by decide +kernel
theorem dX10_mix_1 : decode cX10_mix 1 = .ok (.iload_n 1, 1) := by decide +kernel
theorem dX10_mix_2 : decode cX10_mix 2 = .ok (.invokevirtual 165, 3) := by decide +kernel
theorem dX10_mix_5 : decode cX10_mix 5 = .ok (.ifCond .eq 35, 3) := by decide +kernel
theorem dX10_mix_8 : decode cX10_mix 8 = .ok (.aload_n 0, 1) := by decide +kernel
theorem dX10_mix_9 : decode cX10_mix 9 = .ok (.iload_n 2, 1) := by decide +kernel
theorem dX10_mix_10 : decode cX10_mix 10 = .ok (.invokevirtual 165, 3) := by decide +kernel
theorem dX10_mix_13 : decode cX10_mix 13 = .ok (.ifCond .eq 27, 3) := by decide +kernel
theorem dX10_mix_16 : decode cX10_mix 16 = .ok (.iload_n 1, 1) := by decide +kernel
theorem dX10_mix_17 : decode cX10_mix 17 = .ok (.iload_n 2, 1) := by decide +kernel
theorem dX10_mix_18 : decode cX10_mix 18 = .ok (.if_icmp .eq 22, 3) := by decide +kernel
theorem dX10_mix_21 : decode cX10_mix 21 = .ok (.aload_n 0, 1) := by decide +kernel
theorem dX10_mix_22 : decode cX10_mix 22 = .ok (.iload_n 3, 1) := by decide +kernel
theorem dX10_mix_23 : decode cX10_mix 23 = .ok (.invokevirtual 165, 3) := by decide +kernel
theorem dX10_mix_26 : decode cX10_mix 26 = .ok (.ifCond .eq 14, 3) := by decide +kernel
theorem dX10_mix_29 : decode cX10_mix 29 = .ok (.iload 4, 2) := by decide +kernel
theorem dX10_mix_31 : decode cX10_mix 31 = .ok (.i2l, 1) := by decide +kernel
theorem dX10_mix_32 : decode cX10_mix 32 = .ok (.lconst 0, 1) := by decide +kernel
theorem dX10_mix_33 : decode cX10_mix 33 = .ok (.lconst 1, 1) := by decide +kernel
theorem dX10_mix_34 : decode cX10_mix 34 = .ok (.invokestatic 149, 3) := by decide +kernel
theorem dX10_mix_37 : decode cX10_mix 37 = .ok (.ifCond .ne 6, 3) := by decide +kernel
theorem dX10_mix_40 : decode cX10_mix 40 = .ok (.bipush (-2), 2) := by decide +kernel
theorem dX10_mix_42 : decode cX10_mix 42 = .ok (.ireturn, 1) := by decide +kernel
theorem dX10_mix_43 : decode cX10_mix 43 = .ok (.iconst 0, 1) := by decide +kernel
theorem dX10_mix_44 : decode cX10_mix 44 = .ok (.istore 5, 2) := by decide +kernel
theorem dX10_mix_46 : decode cX10_mix 46 = .ok (.iconst 1, 1) := by decide +kernel
theorem dX10_mix_47 : decode cX10_mix 47 = .ok (.istore 6, 2) := by decide +kernel
theorem dX10_mix_49 : decode cX10_mix 49 = .ok (.iload 6, 2) := by decide +kernel
theorem dX10_mix_51 : decode cX10_mix 51 = .ok (.bipush 11, 2) := by decide +kernel
theorem dX10_mix_53 : decode cX10_mix 53 = .ok (.if_icmp .ge 39, 3) := by decide +kernel
theorem dX10_mix_56 : decode cX10_mix 56 = .ok (.aload_n 0, 1) := by decide +kernel
theorem dX10_mix_57 : decode cX10_mix 57 = .ok (.iload_n 1, 1) := by decide +kernel
theorem dX10_mix_58 : decode cX10_mix 58 = .ok (.iload_n 2, 1) := by decide +kernel
theorem dX10_mix_59 : decode cX10_mix 59 = .ok (.iload_n 3, 1) := by decide +kernel
theorem dX10_mix_60 : decode cX10_mix 60 = .ok (.iload 6, 2) := by decide +kernel
theorem dX10_mix_62 : decode cX10_mix 62 = .ok (.invokevirtual 415, 3) := by decide +kernel
theorem dX10_mix_65 : decode cX10_mix 65 = .ok (.aload_n 0, 1) := by decide +kernel
theorem dX10_mix_66 : decode cX10_mix 66 = .ok (.iload_n 1, 1) := by decide +kernel
theorem dX10_mix_67 : decode cX10_mix 67 = .ok (.iload_n 2, 1) := by decide +kernel
theorem dX10_mix_68 : decode cX10_mix 68 = .ok (.iload_n 3, 1) := by decide +kernel
theorem dX10_mix_69 : decode cX10_mix 69 = .ok (.iload 5, 2) := by decide +kernel
theorem dX10_mix_71 : decode cX10_mix 71 = .ok (.invokevirtual 415, 3) := by decide +kernel
theorem dX10_mix_74 : decode cX10_mix 74 = .ok (.if_icmp .ge 8, 3) := by decide +kernel
theorem dX10_mix_77 : decode cX10_mix 77 = .ok (.iload 6, 2) := by decide +kernel
theorem dX10_mix_79 : decode cX10_mix 79 = .ok (.goto 5, 3) := by decide +kernel
theorem dX10_mix_82 : decode cX10_mix 82 = .ok (.iload 5, 2) := by decide +kernel
theorem dX10_mix_84 : decode cX10_mix 84 = .ok (.istore 5, 2) := by decide +kernel
theorem dX10_mix_86 : decode cX10_mix 86 = .ok (.iinc 6 1, 3) := by decide +kernel
theorem dX10_mix_89 : decode cX10_mix 89 = .ok (.goto (-40), 3) := by decide +kernel
theorem dX10_mix_92 : decode cX10_mix 92 = .ok (.iload 4, 2) := by decide +kernel
theorem dX10_mix_94 : decode cX10_mix 94 = .ok (.ifCond .ne 8, 3) := by decide +kernel
theorem dX10_mix_97 : decode cX10_mix 97 = .ok (.iload 5, 2) := by decide +kernel
theorem dX10_mix_99 : decode cX10_mix 99 = .ok (.goto 12, 3) := by decide +kernel
theorem dX10_mix_102 : decode cX10_mix 102 = .ok (.aload_n 0, 1) := by decide +kernel
theorem dX10_mix_103 : decode cX10_mix 103 = .ok (.iload_n 1, 1) := by decide +kernel
theorem dX10_mix_104 : decode cX10_mix 104 = .ok (.iload_n 2, 1) := by decide +kernel
theorem dX10_mix_105 : decode cX10_mix 105 = .ok (.iload_n 3, 1) := by decide +kernel
theorem dX10_mix_106 : decode cX10_mix 106 = .ok (.iload 5, 2) := by decide +kernel
theorem dX10_mix_108 : decode cX10_mix 108 = .ok (.invokevirtual 415, 3) := by decide +kernel
theorem dX10_mix_111 : decode cX10_mix 111 = .ok (.ireturn, 1) := by decide +kernel
theorem dX10_isTongue_0 : decode cX10_isTongue 0 = .ok (.iload_n 0, 1) := by decide +kernel
theorem dX10_isTongue_1 : decode cX10_isTongue 1 = .ok (.i2l, 1) := by decide +kernel
theorem dX10_isTongue_2 : decode cX10_isTongue 2 = .ok (.lconst 0, 1) := by decide +kernel
theorem dX10_isTongue_3 : decode cX10_isTongue 3 = .ok (.ldc2_w 177, 3) := by decide +kernel
theorem dX10_isTongue_6 : decode cX10_isTongue 6 = .ok (.invokestatic 149, 3) := by decide +kernel
theorem dX10_isTongue_9 : decode cX10_isTongue 9 = .ok (.ireturn, 1) := by decide +kernel
theorem dX10_said_0 : decode cX10_said 0 = .ok (.iload_n 1, 1) := by decide +kernel
theorem dX10_said_1 : decode cX10_said 1 = .ok (.invokestatic 419, 3) := by decide +kernel
theorem dX10_said_4 : decode cX10_said 4 = .ok (.ifCond .eq 30, 3) := by decide +kernel
theorem dX10_said_7 : decode cX10_said 7 = .ok (.aload_n 0, 1) := by decide +kernel
theorem dX10_said_8 : decode cX10_said 8 = .ok (.iload_n 2, 1) := by decide +kernel
theorem dX10_said_9 : decode cX10_said 9 = .ok (.invokevirtual 186, 3) := by decide +kernel
theorem dX10_said_12 : decode cX10_said 12 = .ok (.ifCond .eq 22, 3) := by decide +kernel
theorem dX10_said_15 : decode cX10_said 15 = .ok (.iload_n 3, 1) := by decide +kernel
theorem dX10_said_16 : decode cX10_said 16 = .ok (.i2l, 1) := by decide +kernel
theorem dX10_said_17 : decode cX10_said 17 = .ok (.lconst 0, 1) := by decide +kernel
theorem dX10_said_18 : decode cX10_said 18 = .ok (.lconst 1, 1) := by decide +kernel
theorem dX10_said_19 : decode cX10_said 19 = .ok (.invokestatic 149, 3) := by decide +kernel
theorem dX10_said_22 : decode cX10_said 22 = .ok (.ifCond .eq 12, 3) := by decide +kernel
theorem dX10_said_25 : decode cX10_said 25 = .ok (.aload_n 0, 1) := by decide +kernel
theorem dX10_said_26 : decode cX10_said 26 = .ok (.iload 4, 2) := by decide +kernel
theorem dX10_said_28 : decode cX10_said 28 = .ok (.invokevirtual 165, 3) := by decide +kernel
theorem dX10_said_31 : decode cX10_said 31 = .ok (.ifCond .ne 6, 3) := by decide +kernel
theorem dX10_said_34 : decode cX10_said 34 = .ok (.bipush (-2), 2) := by decide +kernel
theorem dX10_said_36 : decode cX10_said 36 = .ok (.ireturn, 1) := by decide +kernel
theorem dX10_said_37 : decode cX10_said 37 = .ok (.aload_n 0, 1) := by decide +kernel
theorem dX10_said_38 : decode cX10_said 38 = .ok (.getfield 74, 3) := by decide +kernel
theorem dX10_said_41 : decode cX10_said 41 = .ok (.iload_n 1, 1) := by decide +kernel
theorem dX10_said_42 : decode cX10_said 42 = .ok (.iaload, 1) := by decide +kernel
theorem dX10_said_43 : decode cX10_said 43 = .ok (.bipush 12, 2) := by decide +kernel
theorem dX10_said_45 : decode cX10_said 45 = .ok (.if_icmp .ne 6, 3) := by decide +kernel
theorem dX10_said_48 : decode cX10_said 48 = .ok (.bipush (-4), 2) := by decide +kernel
theorem dX10_said_50 : decode cX10_said 50 = .ok (.ireturn, 1) := by decide +kernel
theorem dX10_said_51 : decode cX10_said 51 = .ok (.aload_n 0, 1) := by decide +kernel
theorem dX10_said_52 : decode cX10_said 52 = .ok (.getfield 77, 3) := by decide +kernel
theorem dX10_said_55 : decode cX10_said 55 = .ok (.bipush 12, 2) := by decide +kernel
theorem dX10_said_57 : decode cX10_said 57 = .ok (.iload_n 1, 1) := by decide +kernel
theorem dX10_said_58 : decode cX10_said 58 = .ok (.imul, 1) := by decide +kernel
theorem dX10_said_59 : decode cX10_said 59 = .ok (.aload_n 0, 1) := by decide +kernel
theorem dX10_said_60 : decode cX10_said 60 = .ok (.getfield 74, 3) := by decide +kernel
theorem dX10_said_63 : decode cX10_said 63 = .ok (.iload_n 1, 1) := by decide +kernel
theorem dX10_said_64 : decode cX10_said 64 = .ok (.iaload, 1) := by decide +kernel
theorem dX10_said_65 : decode cX10_said 65 = .ok (.iadd, 1) := by decide +kernel
theorem dX10_said_66 : decode cX10_said 66 = .ok (.iload_n 2, 1) := by decide +kernel
theorem dX10_said_67 : decode cX10_said 67 = .ok (.iastore, 1) := by decide +kernel
theorem dX10_said_68 : decode cX10_said 68 = .ok (.aload_n 0, 1) := by decide +kernel
theorem dX10_said_69 : decode cX10_said 69 = .ok (.getfield 80, 3) := by decide +kernel
theorem dX10_said_72 : decode cX10_said 72 = .ok (.bipush 12, 2) := by decide +kernel
theorem dX10_said_74 : decode cX10_said 74 = .ok (.iload_n 1, 1) := by decide +kernel
theorem dX10_said_75 : decode cX10_said 75 = .ok (.imul, 1) := by decide +kernel
theorem dX10_said_76 : decode cX10_said 76 = .ok (.aload_n 0, 1) := by decide +kernel
theorem dX10_said_77 : decode cX10_said 77 = .ok (.getfield 74, 3) := by decide +kernel
theorem dX10_said_80 : decode cX10_said 80 = .ok (.iload_n 1, 1) := by decide +kernel
theorem dX10_said_81 : decode cX10_said 81 = .ok (.iaload, 1) := by decide +kernel
theorem dX10_said_82 : decode cX10_said 82 = .ok (.iadd, 1) := by decide +kernel
theorem dX10_said_83 : decode cX10_said 83 = .ok (.iload_n 3, 1) := by decide +kernel
theorem dX10_said_84 : decode cX10_said 84 = .ok (.iastore, 1) := by decide +kernel
theorem dX10_said_85 : decode cX10_said 85 = .ok (.aload_n 0, 1) := by decide +kernel
theorem dX10_said_86 : decode cX10_said 86 = .ok (.getfield 83, 3) := by decide +kernel
theorem dX10_said_89 : decode cX10_said 89 = .ok (.bipush 12, 2) := by decide +kernel
theorem dX10_said_91 : decode cX10_said 91 = .ok (.iload_n 1, 1) := by decide +kernel
theorem dX10_said_92 : decode cX10_said 92 = .ok (.imul, 1) := by decide +kernel
theorem dX10_said_93 : decode cX10_said 93 = .ok (.aload_n 0, 1) := by decide +kernel
theorem dX10_said_94 : decode cX10_said 94 = .ok (.getfield 74, 3) := by decide +kernel
theorem dX10_said_97 : decode cX10_said 97 = .ok (.iload_n 1, 1) := by decide +kernel
theorem dX10_said_98 : decode cX10_said 98 = .ok (.iaload, 1) := by decide +kernel
theorem dX10_said_99 : decode cX10_said 99 = .ok (.iadd, 1) := by decide +kernel
theorem dX10_said_100 : decode cX10_said 100 = .ok (.iload 4, 2) := by decide +kernel
theorem dX10_said_102 : decode cX10_said 102 = .ok (.iastore, 1) := by decide +kernel
theorem dX10_said_103 : decode cX10_said 103 = .ok (.aload_n 0, 1) := by decide +kernel
theorem dX10_said_104 : decode cX10_said 104 = .ok (.getfield 74, 3) := by decide +kernel
theorem dX10_said_107 : decode cX10_said 107 = .ok (.iload_n 1, 1) := by decide +kernel
theorem dX10_said_108 : decode cX10_said 108 = .ok (.dup2, 1) := by decide +kernel
theorem dX10_said_109 : decode cX10_said 109 = .ok (.iaload, 1) := by decide +kernel
theorem dX10_said_110 : decode cX10_said 110 = .ok (.iconst 1, 1) := by decide +kernel
theorem dX10_said_111 : decode cX10_said 111 = .ok (.iadd, 1) := by decide +kernel
theorem dX10_said_112 : decode cX10_said 112 = .ok (.iastore, 1) := by decide +kernel
theorem dX10_said_113 : decode cX10_said 113 = .ok (.aload_n 0, 1) := by decide +kernel
theorem dX10_said_114 : decode cX10_said 114 = .ok (.getfield 74, 3) := by decide +kernel
theorem dX10_said_117 : decode cX10_said 117 = .ok (.iload_n 1, 1) := by decide +kernel
theorem dX10_said_118 : decode cX10_said 118 = .ok (.iaload, 1) := by decide +kernel
theorem dX10_said_119 : decode cX10_said 119 = .ok (.ireturn, 1) := by decide +kernel
theorem dX10_withinOf_0 : decode cX10_withinOf 0 = .ok (.aload_n 0, 1) := by decide +kernel
theorem dX10_withinOf_1 : decode cX10_withinOf 1 = .ok (.getfield 47, 3) := by decide +kernel
theorem dX10_withinOf_4 : decode cX10_withinOf 4 = .ok (.iload_n 1, 1) := by decide +kernel
theorem dX10_withinOf_5 : decode cX10_withinOf 5 = .ok (.iaload, 1) := by decide +kernel
theorem dX10_withinOf_6 : decode cX10_withinOf 6 = .ok (.iconst 1, 1) := by decide +kernel
theorem dX10_withinOf_7 : decode cX10_withinOf 7 = .ok (.if_icmp .eq 13, 3) := by decide +kernel
theorem dX10_withinOf_10 : decode cX10_withinOf 10 = .ok (.aload_n 0, 1) := by decide +kernel
theorem dX10_withinOf_11 : decode cX10_withinOf 11 = .ok (.getfield 47, 3) := by decide +kernel
theorem dX10_withinOf_14 : decode cX10_withinOf 14 = .ok (.iload_n 1, 1) := by decide +kernel
theorem dX10_withinOf_15 : decode cX10_withinOf 15 = .ok (.iaload, 1) := by decide +kernel
theorem dX10_withinOf_16 : decode cX10_withinOf 16 = .ok (.iconst 3, 1) := by decide +kernel
theorem dX10_withinOf_17 : decode cX10_withinOf 17 = .ok (.if_icmp .ne 12, 3) := by decide +kernel
theorem dX10_withinOf_20 : decode cX10_withinOf 20 = .ok (.aload_n 0, 1) := by decide +kernel
theorem dX10_withinOf_21 : decode cX10_withinOf 21 = .ok (.getfield 50, 3) := by decide +kernel
theorem dX10_withinOf_24 : decode cX10_withinOf 24 = .ok (.iload_n 1, 1) := by decide +kernel
theorem dX10_withinOf_25 : decode cX10_withinOf 25 = .ok (.iaload, 1) := by decide +kernel
theorem dX10_withinOf_26 : decode cX10_withinOf 26 = .ok (.goto 9, 3) := by decide +kernel
theorem dX10_withinOf_29 : decode cX10_withinOf 29 = .ok (.aload_n 0, 1) := by decide +kernel
theorem dX10_withinOf_30 : decode cX10_withinOf 30 = .ok (.getfield 53, 3) := by decide +kernel
theorem dX10_withinOf_33 : decode cX10_withinOf 33 = .ok (.iload_n 1, 1) := by decide +kernel
theorem dX10_withinOf_34 : decode cX10_withinOf 34 = .ok (.iaload, 1) := by decide +kernel
theorem dX10_withinOf_35 : decode cX10_withinOf 35 = .ok (.ireturn, 1) := by decide +kernel
theorem dX10_tongue_0 : decode cX10_tongue 0 = .ok (.iload_n 1, 1) := by decide +kernel
theorem dX10_tongue_1 : decode cX10_tongue 1 = .ok (.invokestatic 419, 3) := by decide +kernel
theorem dX10_tongue_4 : decode cX10_tongue 4 = .ok (.ifCond .eq 15, 3) := by decide +kernel
theorem dX10_tongue_7 : decode cX10_tongue 7 = .ok (.iload_n 2, 1) := by decide +kernel
theorem dX10_tongue_8 : decode cX10_tongue 8 = .ok (.i2l, 1) := by decide +kernel
theorem dX10_tongue_9 : decode cX10_tongue 9 = .ok (.lconst 0, 1) := by decide +kernel
theorem dX10_tongue_10 : decode cX10_tongue 10 = .ok (.ldc2_w 170, 3) := by decide +kernel
theorem dX10_tongue_13 : decode cX10_tongue 13 = .ok (.invokestatic 149, 3) := by decide +kernel
theorem dX10_tongue_16 : decode cX10_tongue 16 = .ok (.ifCond .ne 6, 3) := by decide +kernel
theorem dX10_tongue_19 : decode cX10_tongue 19 = .ok (.bipush (-2), 2) := by decide +kernel
theorem dX10_tongue_21 : decode cX10_tongue 21 = .ok (.ireturn, 1) := by decide +kernel
theorem dX10_tongue_22 : decode cX10_tongue 22 = .ok (.iconst 0, 1) := by decide +kernel
theorem dX10_tongue_23 : decode cX10_tongue 23 = .ok (.istore_n 3, 1) := by decide +kernel
theorem dX10_tongue_24 : decode cX10_tongue 24 = .ok (.iconst 0, 1) := by decide +kernel
theorem dX10_tongue_25 : decode cX10_tongue 25 = .ok (.istore 4, 2) := by decide +kernel
theorem dX10_tongue_27 : decode cX10_tongue 27 = .ok (.iconst 0, 1) := by decide +kernel
theorem dX10_tongue_28 : decode cX10_tongue 28 = .ok (.istore 5, 2) := by decide +kernel
theorem dX10_tongue_30 : decode cX10_tongue 30 = .ok (.iconst 0, 1) := by decide +kernel
theorem dX10_tongue_31 : decode cX10_tongue 31 = .ok (.istore 6, 2) := by decide +kernel
theorem dX10_tongue_33 : decode cX10_tongue 33 = .ok (.bipush 12, 2) := by decide +kernel
theorem dX10_tongue_35 : decode cX10_tongue 35 = .ok (.iload_n 1, 1) := by decide +kernel
theorem dX10_tongue_36 : decode cX10_tongue 36 = .ok (.imul, 1) := by decide +kernel
theorem dX10_tongue_37 : decode cX10_tongue 37 = .ok (.istore 7, 2) := by decide +kernel
theorem dX10_tongue_39 : decode cX10_tongue 39 = .ok (.iload 7, 2) := by decide +kernel
theorem dX10_tongue_41 : decode cX10_tongue 41 = .ok (.bipush 12, 2) := by decide +kernel
theorem dX10_tongue_43 : decode cX10_tongue 43 = .ok (.iload_n 1, 1) := by decide +kernel
theorem dX10_tongue_44 : decode cX10_tongue 44 = .ok (.imul, 1) := by decide +kernel
theorem dX10_tongue_45 : decode cX10_tongue 45 = .ok (.aload_n 0, 1) := by decide +kernel
theorem dX10_tongue_46 : decode cX10_tongue 46 = .ok (.getfield 74, 3) := by decide +kernel
theorem dX10_tongue_49 : decode cX10_tongue 49 = .ok (.iload_n 1, 1) := by decide +kernel
theorem dX10_tongue_50 : decode cX10_tongue 50 = .ok (.iaload, 1) := by decide +kernel
theorem dX10_tongue_51 : decode cX10_tongue 51 = .ok (.iadd, 1) := by decide +kernel
theorem dX10_tongue_52 : decode cX10_tongue 52 = .ok (.if_icmp .ge 104, 3) := by decide +kernel
theorem dX10_tongue_55 : decode cX10_tongue 55 = .ok (.aload_n 0, 1) := by decide +kernel
theorem dX10_tongue_56 : decode cX10_tongue 56 = .ok (.getfield 77, 3) := by decide +kernel
theorem dX10_tongue_59 : decode cX10_tongue 59 = .ok (.iload 7, 2) := by decide +kernel
theorem dX10_tongue_61 : decode cX10_tongue 61 = .ok (.iaload, 1) := by decide +kernel
theorem dX10_tongue_62 : decode cX10_tongue 62 = .ok (.istore 8, 2) := by decide +kernel
theorem dX10_tongue_64 : decode cX10_tongue 64 = .ok (.aload_n 0, 1) := by decide +kernel
theorem dX10_tongue_65 : decode cX10_tongue 65 = .ok (.getfield 80, 3) := by decide +kernel
theorem dX10_tongue_68 : decode cX10_tongue 68 = .ok (.iload 7, 2) := by decide +kernel
theorem dX10_tongue_70 : decode cX10_tongue 70 = .ok (.iaload, 1) := by decide +kernel
theorem dX10_tongue_71 : decode cX10_tongue 71 = .ok (.ifCond .ne 33, 3) := by decide +kernel
theorem dX10_tongue_74 : decode cX10_tongue 74 = .ok (.iinc 4 1, 3) := by decide +kernel
theorem dX10_tongue_77 : decode cX10_tongue 77 = .ok (.iload_n 3, 1) := by decide +kernel
theorem dX10_tongue_78 : decode cX10_tongue 78 = .ok (.aload_n 0, 1) := by decide +kernel
theorem dX10_tongue_79 : decode cX10_tongue 79 = .ok (.getfield 83, 3) := by decide +kernel
theorem dX10_tongue_82 : decode cX10_tongue 82 = .ok (.iload 7, 2) := by decide +kernel
theorem dX10_tongue_84 : decode cX10_tongue 84 = .ok (.iaload, 1) := by decide +kernel
theorem dX10_tongue_85 : decode cX10_tongue 85 = .ok (.aload_n 0, 1) := by decide +kernel
theorem dX10_tongue_86 : decode cX10_tongue 86 = .ok (.iload 8, 2) := by decide +kernel
theorem dX10_tongue_88 : decode cX10_tongue 88 = .ok (.invokevirtual 422, 3) := by decide +kernel
theorem dX10_tongue_91 : decode cX10_tongue 91 = .ok (.if_icmp .ne 7, 3) := by decide +kernel
theorem dX10_tongue_94 : decode cX10_tongue 94 = .ok (.iconst 1, 1) := by decide +kernel
theorem dX10_tongue_95 : decode cX10_tongue 95 = .ok (.goto 4, 3) := by decide +kernel
theorem dX10_tongue_98 : decode cX10_tongue 98 = .ok (.iconst 0, 1) := by decide +kernel
theorem dX10_tongue_99 : decode cX10_tongue 99 = .ok (.iadd, 1) := by decide +kernel
theorem dX10_tongue_100 : decode cX10_tongue 100 = .ok (.istore_n 3, 1) := by decide +kernel
theorem dX10_tongue_101 : decode cX10_tongue 101 = .ok (.goto 49, 3) := by decide +kernel
theorem dX10_tongue_104 : decode cX10_tongue 104 = .ok (.aload_n 0, 1) := by decide +kernel
theorem dX10_tongue_105 : decode cX10_tongue 105 = .ok (.iload 8, 2) := by decide +kernel
theorem dX10_tongue_107 : decode cX10_tongue 107 = .ok (.invokevirtual 422, 3) := by decide +kernel
theorem dX10_tongue_110 : decode cX10_tongue 110 = .ok (.aload_n 0, 1) := by decide +kernel
theorem dX10_tongue_111 : decode cX10_tongue 111 = .ok (.getfield 50, 3) := by decide +kernel
theorem dX10_tongue_114 : decode cX10_tongue 114 = .ok (.iload 8, 2) := by decide +kernel
theorem dX10_tongue_116 : decode cX10_tongue 116 = .ok (.iaload, 1) := by decide +kernel
theorem dX10_tongue_117 : decode cX10_tongue 117 = .ok (.if_icmp .eq 33, 3) := by decide +kernel
theorem dX10_tongue_120 : decode cX10_tongue 120 = .ok (.iinc 6 1, 3) := by decide +kernel
theorem dX10_tongue_123 : decode cX10_tongue 123 = .ok (.iload 5, 2) := by decide +kernel
theorem dX10_tongue_125 : decode cX10_tongue 125 = .ok (.aload_n 0, 1) := by decide +kernel
theorem dX10_tongue_126 : decode cX10_tongue 126 = .ok (.getfield 83, 3) := by decide +kernel
theorem dX10_tongue_129 : decode cX10_tongue 129 = .ok (.iload 7, 2) := by decide +kernel
theorem dX10_tongue_131 : decode cX10_tongue 131 = .ok (.iaload, 1) := by decide +kernel
theorem dX10_tongue_132 : decode cX10_tongue 132 = .ok (.aload_n 0, 1) := by decide +kernel
theorem dX10_tongue_133 : decode cX10_tongue 133 = .ok (.getfield 50, 3) := by decide +kernel
theorem dX10_tongue_136 : decode cX10_tongue 136 = .ok (.iload 8, 2) := by decide +kernel
theorem dX10_tongue_138 : decode cX10_tongue 138 = .ok (.iaload, 1) := by decide +kernel
theorem dX10_tongue_139 : decode cX10_tongue 139 = .ok (.if_icmp .ne 7, 3) := by decide +kernel
theorem dX10_tongue_142 : decode cX10_tongue 142 = .ok (.iconst 1, 1) := by decide +kernel
theorem dX10_tongue_143 : decode cX10_tongue 143 = .ok (.goto 4, 3) := by decide +kernel
theorem dX10_tongue_146 : decode cX10_tongue 146 = .ok (.iconst 0, 1) := by decide +kernel
theorem dX10_tongue_147 : decode cX10_tongue 147 = .ok (.iadd, 1) := by decide +kernel
theorem dX10_tongue_148 : decode cX10_tongue 148 = .ok (.istore 5, 2) := by decide +kernel
theorem dX10_tongue_150 : decode cX10_tongue 150 = .ok (.iinc 7 1, 3) := by decide +kernel
theorem dX10_tongue_153 : decode cX10_tongue 153 = .ok (.goto (-114), 3) := by decide +kernel
theorem dX10_tongue_156 : decode cX10_tongue 156 = .ok (.iload_n 2, 1) := by decide +kernel
theorem dX10_tongue_157 : decode cX10_tongue 157 = .ok (.ifCond .ne 7, 3) := by decide +kernel
theorem dX10_tongue_160 : decode cX10_tongue 160 = .ok (.iload_n 3, 1) := by decide +kernel
theorem dX10_tongue_161 : decode cX10_tongue 161 = .ok (.goto 25, 3) := by decide +kernel
theorem dX10_tongue_164 : decode cX10_tongue 164 = .ok (.iload_n 2, 1) := by decide +kernel
theorem dX10_tongue_165 : decode cX10_tongue 165 = .ok (.iconst 1, 1) := by decide +kernel
theorem dX10_tongue_166 : decode cX10_tongue 166 = .ok (.if_icmp .ne 8, 3) := by decide +kernel
theorem dX10_tongue_169 : decode cX10_tongue 169 = .ok (.iload 4, 2) := by decide +kernel
theorem dX10_tongue_171 : decode cX10_tongue 171 = .ok (.goto 15, 3) := by decide +kernel
theorem dX10_tongue_174 : decode cX10_tongue 174 = .ok (.iload_n 2, 1) := by decide +kernel
theorem dX10_tongue_175 : decode cX10_tongue 175 = .ok (.iconst 2, 1) := by decide +kernel
theorem dX10_tongue_176 : decode cX10_tongue 176 = .ok (.if_icmp .ne 8, 3) := by decide +kernel
theorem dX10_tongue_179 : decode cX10_tongue 179 = .ok (.iload 5, 2) := by decide +kernel
theorem dX10_tongue_181 : decode cX10_tongue 181 = .ok (.goto 5, 3) := by decide +kernel
theorem dX10_tongue_184 : decode cX10_tongue 184 = .ok (.iload 6, 2) := by decide +kernel
theorem dX10_tongue_186 : decode cX10_tongue 186 = .ok (.ireturn, 1) := by decide +kernel
theorem dX10_opened_0 : decode cX10_opened 0 = .ok (.iload_n 1, 1) := by decide +kernel
theorem dX10_opened_1 : decode cX10_opened 1 = .ok (.i2l, 1) := by decide +kernel
theorem dX10_opened_2 : decode cX10_opened 2 = .ok (.lconst 0, 1) := by decide +kernel
theorem dX10_opened_3 : decode cX10_opened 3 = .ok (.ldc2_w 157, 3) := by decide +kernel
theorem dX10_opened_6 : decode cX10_opened 6 = .ok (.invokestatic 149, 3) := by decide +kernel
theorem dX10_opened_9 : decode cX10_opened 9 = .ok (.ifCond .eq 15, 3) := by decide +kernel
theorem dX10_opened_12 : decode cX10_opened 12 = .ok (.iload_n 2, 1) := by decide +kernel
theorem dX10_opened_13 : decode cX10_opened 13 = .ok (.i2l, 1) := by decide +kernel
theorem dX10_opened_14 : decode cX10_opened 14 = .ok (.lconst 0, 1) := by decide +kernel
theorem dX10_opened_15 : decode cX10_opened 15 = .ok (.ldc2_w 168, 3) := by decide +kernel
theorem dX10_opened_18 : decode cX10_opened 18 = .ok (.invokestatic 149, 3) := by decide +kernel
theorem dX10_opened_21 : decode cX10_opened 21 = .ok (.ifCond .ne 6, 3) := by decide +kernel
theorem dX10_opened_24 : decode cX10_opened 24 = .ok (.bipush (-2), 2) := by decide +kernel
theorem dX10_opened_26 : decode cX10_opened 26 = .ok (.ireturn, 1) := by decide +kernel
theorem dX10_opened_27 : decode cX10_opened 27 = .ok (.aload_n 0, 1) := by decide +kernel
theorem dX10_opened_28 : decode cX10_opened 28 = .ok (.getfield 174, 3) := by decide +kernel
theorem dX10_opened_31 : decode cX10_opened 31 = .ok (.bipush 10, 2) := by decide +kernel
theorem dX10_opened_33 : decode cX10_opened 33 = .ok (.if_icmp .ge 10, 3) := by decide +kernel
theorem dX10_opened_36 : decode cX10_opened 36 = .ok (.aload_n 0, 1) := by decide +kernel
theorem dX10_opened_37 : decode cX10_opened 37 = .ok (.getfield 174, 3) := by decide +kernel
theorem dX10_opened_40 : decode cX10_opened 40 = .ok (.goto 5, 3) := by decide +kernel
theorem dX10_opened_43 : decode cX10_opened 43 = .ok (.bipush 10, 2) := by decide +kernel
theorem dX10_opened_45 : decode cX10_opened 45 = .ok (.istore_n 3, 1) := by decide +kernel
theorem dX10_opened_46 : decode cX10_opened 46 = .ok (.iconst 0, 1) := by decide +kernel
theorem dX10_opened_47 : decode cX10_opened 47 = .ok (.istore 4, 2) := by decide +kernel
theorem dX10_opened_49 : decode cX10_opened 49 = .ok (.iload 4, 2) := by decide +kernel
theorem dX10_opened_51 : decode cX10_opened 51 = .ok (.iload_n 3, 1) := by decide +kernel
theorem dX10_opened_52 : decode cX10_opened 52 = .ok (.if_icmp .ge 35, 3) := by decide +kernel
theorem dX10_opened_55 : decode cX10_opened 55 = .ok (.aload_n 0, 1) := by decide +kernel
theorem dX10_opened_56 : decode cX10_opened 56 = .ok (.getfield 86, 3) := by decide +kernel
theorem dX10_opened_59 : decode cX10_opened 59 = .ok (.iload 4, 2) := by decide +kernel
theorem dX10_opened_61 : decode cX10_opened 61 = .ok (.aload_n 0, 1) := by decide +kernel
theorem dX10_opened_62 : decode cX10_opened 62 = .ok (.iload 4, 2) := by decide +kernel
theorem dX10_opened_64 : decode cX10_opened 64 = .ok (.invokevirtual 221, 3) := by decide +kernel
theorem dX10_opened_67 : decode cX10_opened 67 = .ok (.iastore, 1) := by decide +kernel
theorem dX10_opened_68 : decode cX10_opened 68 = .ok (.aload_n 0, 1) := by decide +kernel
theorem dX10_opened_69 : decode cX10_opened 69 = .ok (.getfield 89, 3) := by decide +kernel
theorem dX10_opened_72 : decode cX10_opened 72 = .ok (.iload 4, 2) := by decide +kernel
theorem dX10_opened_74 : decode cX10_opened 74 = .ok (.aload_n 0, 1) := by decide +kernel
theorem dX10_opened_75 : decode cX10_opened 75 = .ok (.iload 4, 2) := by decide +kernel
theorem dX10_opened_77 : decode cX10_opened 77 = .ok (.invokevirtual 227, 3) := by decide +kernel
theorem dX10_opened_80 : decode cX10_opened 80 = .ok (.iastore, 1) := by decide +kernel
theorem dX10_opened_81 : decode cX10_opened 81 = .ok (.iinc 4 1, 3) := by decide +kernel
theorem dX10_opened_84 : decode cX10_opened 84 = .ok (.goto (-35), 3) := by decide +kernel
theorem dX10_opened_87 : decode cX10_opened 87 = .ok (.iconst 0, 1) := by decide +kernel
theorem dX10_opened_88 : decode cX10_opened 88 = .ok (.istore 4, 2) := by decide +kernel
theorem dX10_opened_90 : decode cX10_opened 90 = .ok (.iconst (-1), 1) := by decide +kernel
theorem dX10_opened_91 : decode cX10_opened 91 = .ok (.istore 5, 2) := by decide +kernel
theorem dX10_opened_93 : decode cX10_opened 93 = .ok (.iconst 0, 1) := by decide +kernel
theorem dX10_opened_94 : decode cX10_opened 94 = .ok (.istore 6, 2) := by decide +kernel
theorem dX10_opened_96 : decode cX10_opened 96 = .ok (.iconst 0, 1) := by decide +kernel
theorem dX10_opened_97 : decode cX10_opened 97 = .ok (.istore 7, 2) := by decide +kernel
theorem dX10_opened_99 : decode cX10_opened 99 = .ok (.iload 7, 2) := by decide +kernel
theorem dX10_opened_101 : decode cX10_opened 101 = .ok (.iconst 1, 1) := by decide +kernel
theorem dX10_opened_102 : decode cX10_opened 102 = .ok (.iload_n 3, 1) := by decide +kernel
theorem dX10_opened_103 : decode cX10_opened 103 = .ok (.ishl, 1) := by decide +kernel
theorem dX10_opened_104 : decode cX10_opened 104 = .ok (.if_icmp .ge 126, 3) := by decide +kernel
theorem dX10_opened_107 : decode cX10_opened 107 = .ok (.iconst 0, 1) := by decide +kernel
theorem dX10_opened_108 : decode cX10_opened 108 = .ok (.istore 8, 2) := by decide +kernel
theorem dX10_opened_110 : decode cX10_opened 110 = .ok (.iconst 0, 1) := by decide +kernel
theorem dX10_opened_111 : decode cX10_opened 111 = .ok (.istore 9, 2) := by decide +kernel
theorem dX10_opened_113 : decode cX10_opened 113 = .ok (.iconst 0, 1) := by decide +kernel
theorem dX10_opened_114 : decode cX10_opened 114 = .ok (.istore 10, 2) := by decide +kernel
theorem dX10_opened_116 : decode cX10_opened 116 = .ok (.iload 10, 2) := by decide +kernel
theorem dX10_opened_118 : decode cX10_opened 118 = .ok (.iload_n 3, 1) := by decide +kernel
theorem dX10_opened_119 : decode cX10_opened 119 = .ok (.if_icmp .ge 63, 3) := by decide +kernel
theorem dX10_opened_122 : decode cX10_opened 122 = .ok (.iload 8, 2) := by decide +kernel
theorem dX10_opened_124 : decode cX10_opened 124 = .ok (.iload 7, 2) := by decide +kernel
theorem dX10_opened_126 : decode cX10_opened 126 = .ok (.iload 10, 2) := by decide +kernel
theorem dX10_opened_128 : decode cX10_opened 128 = .ok (.ishr, 1) := by decide +kernel
theorem dX10_opened_129 : decode cX10_opened 129 = .ok (.iconst 1, 1) := by decide +kernel
theorem dX10_opened_130 : decode cX10_opened 130 = .ok (.iand, 1) := by decide +kernel
theorem dX10_opened_131 : decode cX10_opened 131 = .ok (.iconst 1, 1) := by decide +kernel
theorem dX10_opened_132 : decode cX10_opened 132 = .ok (.if_icmp .ne 13, 3) := by decide +kernel
theorem dX10_opened_135 : decode cX10_opened 135 = .ok (.aload_n 0, 1) := by decide +kernel
theorem dX10_opened_136 : decode cX10_opened 136 = .ok (.getfield 86, 3) := by decide +kernel
theorem dX10_opened_139 : decode cX10_opened 139 = .ok (.iload 10, 2) := by decide +kernel
theorem dX10_opened_141 : decode cX10_opened 141 = .ok (.iaload, 1) := by decide +kernel
theorem dX10_opened_142 : decode cX10_opened 142 = .ok (.goto 4, 3) := by decide +kernel
theorem dX10_opened_145 : decode cX10_opened 145 = .ok (.iconst 0, 1) := by decide +kernel
theorem dX10_opened_146 : decode cX10_opened 146 = .ok (.iadd, 1) := by decide +kernel
theorem dX10_opened_147 : decode cX10_opened 147 = .ok (.istore 8, 2) := by decide +kernel
theorem dX10_opened_149 : decode cX10_opened 149 = .ok (.iload 9, 2) := by decide +kernel
theorem dX10_opened_151 : decode cX10_opened 151 = .ok (.iload 7, 2) := by decide +kernel
theorem dX10_opened_153 : decode cX10_opened 153 = .ok (.iload 10, 2) := by decide +kernel
theorem dX10_opened_155 : decode cX10_opened 155 = .ok (.ishr, 1) := by decide +kernel
theorem dX10_opened_156 : decode cX10_opened 156 = .ok (.iconst 1, 1) := by decide +kernel
theorem dX10_opened_157 : decode cX10_opened 157 = .ok (.iand, 1) := by decide +kernel
theorem dX10_opened_158 : decode cX10_opened 158 = .ok (.iconst 1, 1) := by decide +kernel
theorem dX10_opened_159 : decode cX10_opened 159 = .ok (.if_icmp .ne 13, 3) := by decide +kernel
theorem dX10_opened_162 : decode cX10_opened 162 = .ok (.aload_n 0, 1) := by decide +kernel
theorem dX10_opened_163 : decode cX10_opened 163 = .ok (.getfield 89, 3) := by decide +kernel
theorem dX10_opened_166 : decode cX10_opened 166 = .ok (.iload 10, 2) := by decide +kernel
theorem dX10_opened_168 : decode cX10_opened 168 = .ok (.iaload, 1) := by decide +kernel
theorem dX10_opened_169 : decode cX10_opened 169 = .ok (.goto 4, 3) := by decide +kernel
theorem dX10_opened_172 : decode cX10_opened 172 = .ok (.iconst 0, 1) := by decide +kernel
theorem dX10_opened_173 : decode cX10_opened 173 = .ok (.iadd, 1) := by decide +kernel
theorem dX10_opened_174 : decode cX10_opened 174 = .ok (.istore 9, 2) := by decide +kernel
theorem dX10_opened_176 : decode cX10_opened 176 = .ok (.iinc 10 1, 3) := by decide +kernel
theorem dX10_opened_179 : decode cX10_opened 179 = .ok (.goto (-63), 3) := by decide +kernel
theorem dX10_opened_182 : decode cX10_opened 182 = .ok (.iload 9, 2) := by decide +kernel
theorem dX10_opened_184 : decode cX10_opened 184 = .ok (.iload_n 1, 1) := by decide +kernel
theorem dX10_opened_185 : decode cX10_opened 185 = .ok (.if_icmp .gt 39, 3) := by decide +kernel
theorem dX10_opened_188 : decode cX10_opened 188 = .ok (.iload 8, 2) := by decide +kernel
theorem dX10_opened_190 : decode cX10_opened 190 = .ok (.iload 5, 2) := by decide +kernel
theorem dX10_opened_192 : decode cX10_opened 192 = .ok (.if_icmp .lt 32, 3) := by decide +kernel
theorem dX10_opened_195 : decode cX10_opened 195 = .ok (.iload 8, 2) := by decide +kernel
theorem dX10_opened_197 : decode cX10_opened 197 = .ok (.iload 5, 2) := by decide +kernel
theorem dX10_opened_199 : decode cX10_opened 199 = .ok (.if_icmp .ne 13, 3) := by decide +kernel
theorem dX10_opened_202 : decode cX10_opened 202 = .ok (.iload 9, 2) := by decide +kernel
theorem dX10_opened_204 : decode cX10_opened 204 = .ok (.iload 6, 2) := by decide +kernel
theorem dX10_opened_206 : decode cX10_opened 206 = .ok (.if_icmp .lt 6, 3) := by decide +kernel
theorem dX10_opened_209 : decode cX10_opened 209 = .ok (.goto 15, 3) := by decide +kernel
theorem dX10_opened_212 : decode cX10_opened 212 = .ok (.iload 7, 2) := by decide +kernel
theorem dX10_opened_214 : decode cX10_opened 214 = .ok (.istore 4, 2) := by decide +kernel
theorem dX10_opened_216 : decode cX10_opened 216 = .ok (.iload 8, 2) := by decide +kernel
theorem dX10_opened_218 : decode cX10_opened 218 = .ok (.istore 5, 2) := by decide +kernel
theorem dX10_opened_220 : decode cX10_opened 220 = .ok (.iload 9, 2) := by decide +kernel
theorem dX10_opened_222 : decode cX10_opened 222 = .ok (.istore 6, 2) := by decide +kernel
theorem dX10_opened_224 : decode cX10_opened 224 = .ok (.iinc 7 1, 3) := by decide +kernel
theorem dX10_opened_227 : decode cX10_opened 227 = .ok (.goto (-128), 3) := by decide +kernel
theorem dX10_opened_230 : decode cX10_opened 230 = .ok (.iload_n 2, 1) := by decide +kernel
theorem dX10_opened_231 : decode cX10_opened 231 = .ok (.ifCond .ne 8, 3) := by decide +kernel
theorem dX10_opened_234 : decode cX10_opened 234 = .ok (.iload 4, 2) := by decide +kernel
theorem dX10_opened_236 : decode cX10_opened 236 = .ok (.goto 15, 3) := by decide +kernel
theorem dX10_opened_239 : decode cX10_opened 239 = .ok (.iload_n 2, 1) := by decide +kernel
theorem dX10_opened_240 : decode cX10_opened 240 = .ok (.iconst 1, 1) := by decide +kernel
theorem dX10_opened_241 : decode cX10_opened 241 = .ok (.if_icmp .ne 8, 3) := by decide +kernel
theorem dX10_opened_244 : decode cX10_opened 244 = .ok (.iload 5, 2) := by decide +kernel
theorem dX10_opened_246 : decode cX10_opened 246 = .ok (.goto 5, 3) := by decide +kernel
theorem dX10_opened_249 : decode cX10_opened 249 = .ok (.iload 6, 2) := by decide +kernel
theorem dX10_opened_251 : decode cX10_opened 251 = .ok (.ireturn, 1) := by decide +kernel
theorem dX10_owed_0 : decode cX10_owed 0 = .ok (.iload_n 1, 1) := by decide +kernel
theorem dX10_owed_1 : decode cX10_owed 1 = .ok (.invokestatic 406, 3) := by decide +kernel
theorem dX10_owed_4 : decode cX10_owed 4 = .ok (.ifCond .ne 7, 3) := by decide +kernel
theorem dX10_owed_7 : decode cX10_owed 7 = .ok (.ldc2_w 398, 3) := by decide +kernel
theorem dX10_owed_10 : decode cX10_owed 10 = .ok (.lreturn, 1) := by decide +kernel
theorem dX10_owed_11 : decode cX10_owed 11 = .ok (.lconst 0, 1) := by decide +kernel
theorem dX10_owed_12 : decode cX10_owed 12 = .ok (.lstore_n 2, 1) := by decide +kernel
theorem dX10_owed_13 : decode cX10_owed 13 = .ok (.iconst 0, 1) := by decide +kernel
theorem dX10_owed_14 : decode cX10_owed 14 = .ok (.istore 4, 2) := by decide +kernel
theorem dX10_owed_16 : decode cX10_owed 16 = .ok (.iload 4, 2) := by decide +kernel
theorem dX10_owed_18 : decode cX10_owed 18 = .ok (.aload_n 0, 1) := by decide +kernel
theorem dX10_owed_19 : decode cX10_owed 19 = .ok (.getfield 232, 3) := by decide +kernel
theorem dX10_owed_22 : decode cX10_owed 22 = .ok (.if_icmp .ge 78, 3) := by decide +kernel
theorem dX10_owed_25 : decode cX10_owed 25 = .ok (.aload_n 0, 1) := by decide +kernel
theorem dX10_owed_26 : decode cX10_owed 26 = .ok (.aload_n 0, 1) := by decide +kernel
theorem dX10_owed_27 : decode cX10_owed 27 = .ok (.getfield 59, 3) := by decide +kernel
theorem dX10_owed_30 : decode cX10_owed 30 = .ok (.iload 4, 2) := by decide +kernel
theorem dX10_owed_32 : decode cX10_owed 32 = .ok (.iaload, 1) := by decide +kernel
theorem dX10_owed_33 : decode cX10_owed 33 = .ok (.invokevirtual 209, 3) := by decide +kernel
theorem dX10_owed_36 : decode cX10_owed 36 = .ok (.ifCond .ne 6, 3) := by decide +kernel
theorem dX10_owed_39 : decode cX10_owed 39 = .ok (.goto 55, 3) := by decide +kernel
theorem dX10_owed_42 : decode cX10_owed 42 = .ok (.lload_n 2, 1) := by decide +kernel
theorem dX10_owed_43 : decode cX10_owed 43 = .ok (.aload_n 0, 1) := by decide +kernel
theorem dX10_owed_44 : decode cX10_owed 44 = .ok (.getfield 65, 3) := by decide +kernel
theorem dX10_owed_47 : decode cX10_owed 47 = .ok (.iload 4, 2) := by decide +kernel
theorem dX10_owed_49 : decode cX10_owed 49 = .ok (.iaload, 1) := by decide +kernel
theorem dX10_owed_50 : decode cX10_owed 50 = .ok (.iload_n 1, 1) := by decide +kernel
theorem dX10_owed_51 : decode cX10_owed 51 = .ok (.if_icmp .ne 14, 3) := by decide +kernel
theorem dX10_owed_54 : decode cX10_owed 54 = .ok (.aload_n 0, 1) := by decide +kernel
theorem dX10_owed_55 : decode cX10_owed 55 = .ok (.getfield 68, 3) := by decide +kernel
theorem dX10_owed_58 : decode cX10_owed 58 = .ok (.iload 4, 2) := by decide +kernel
theorem dX10_owed_60 : decode cX10_owed 60 = .ok (.iaload, 1) := by decide +kernel
theorem dX10_owed_61 : decode cX10_owed 61 = .ok (.i2l, 1) := by decide +kernel
theorem dX10_owed_62 : decode cX10_owed 62 = .ok (.goto 4, 3) := by decide +kernel
theorem dX10_owed_65 : decode cX10_owed 65 = .ok (.lconst 0, 1) := by decide +kernel
theorem dX10_owed_66 : decode cX10_owed 66 = .ok (.ladd, 1) := by decide +kernel
theorem dX10_owed_67 : decode cX10_owed 67 = .ok (.lstore_n 2, 1) := by decide +kernel
theorem dX10_owed_68 : decode cX10_owed 68 = .ok (.lload_n 2, 1) := by decide +kernel
theorem dX10_owed_69 : decode cX10_owed 69 = .ok (.aload_n 0, 1) := by decide +kernel
theorem dX10_owed_70 : decode cX10_owed 70 = .ok (.getfield 62, 3) := by decide +kernel
theorem dX10_owed_73 : decode cX10_owed 73 = .ok (.iload 4, 2) := by decide +kernel
theorem dX10_owed_75 : decode cX10_owed 75 = .ok (.iaload, 1) := by decide +kernel
theorem dX10_owed_76 : decode cX10_owed 76 = .ok (.iload_n 1, 1) := by decide +kernel
theorem dX10_owed_77 : decode cX10_owed 77 = .ok (.if_icmp .ne 14, 3) := by decide +kernel
theorem dX10_owed_80 : decode cX10_owed 80 = .ok (.aload_n 0, 1) := by decide +kernel
theorem dX10_owed_81 : decode cX10_owed 81 = .ok (.getfield 68, 3) := by decide +kernel
theorem dX10_owed_84 : decode cX10_owed 84 = .ok (.iload 4, 2) := by decide +kernel
theorem dX10_owed_86 : decode cX10_owed 86 = .ok (.iaload, 1) := by decide +kernel
theorem dX10_owed_87 : decode cX10_owed 87 = .ok (.i2l, 1) := by decide +kernel
theorem dX10_owed_88 : decode cX10_owed 88 = .ok (.goto 4, 3) := by decide +kernel
theorem dX10_owed_91 : decode cX10_owed 91 = .ok (.lconst 0, 1) := by decide +kernel
theorem dX10_owed_92 : decode cX10_owed 92 = .ok (.lsub, 1) := by decide +kernel
theorem dX10_owed_93 : decode cX10_owed 93 = .ok (.lstore_n 2, 1) := by decide +kernel
theorem dX10_owed_94 : decode cX10_owed 94 = .ok (.iinc 4 1, 3) := by decide +kernel
theorem dX10_owed_97 : decode cX10_owed 97 = .ok (.goto (-81), 3) := by decide +kernel
theorem dX10_owed_100 : decode cX10_owed 100 = .ok (.lload_n 2, 1) := by decide +kernel
theorem dX10_owed_101 : decode cX10_owed 101 = .ok (.lreturn, 1) := by decide +kernel
theorem dX10_chain_0 : decode cX10_chain 0 = .ok (.aload_n 0, 1) := by decide +kernel
theorem dX10_chain_1 : decode cX10_chain 1 = .ok (.iload_n 1, 1) := by decide +kernel
theorem dX10_chain_2 : decode cX10_chain 2 = .ok (.invokevirtual 186, 3) := by decide +kernel
theorem dX10_chain_5 : decode cX10_chain 5 = .ok (.ifCond .ne 6, 3) := by decide +kernel
theorem dX10_chain_8 : decode cX10_chain 8 = .ok (.bipush (-2), 2) := by decide +kernel
theorem dX10_chain_10 : decode cX10_chain 10 = .ok (.ireturn, 1) := by decide +kernel
theorem dX10_chain_11 : decode cX10_chain 11 = .ok (.aload_n 0, 1) := by decide +kernel
theorem dX10_chain_12 : decode cX10_chain 12 = .ok (.iload_n 1, 1) := by decide +kernel
theorem dX10_chain_13 : decode cX10_chain 13 = .ok (.aload_n 0, 1) := by decide +kernel
theorem dX10_chain_14 : decode cX10_chain 14 = .ok (.getfield 232, 3) := by decide +kernel
theorem dX10_chain_17 : decode cX10_chain 17 = .ok (.invokevirtual 235, 3) := by decide +kernel
theorem dX10_chain_20 : decode cX10_chain 20 = .ok (.istore_n 2, 1) := by decide +kernel
theorem dX10_chain_21 : decode cX10_chain 21 = .ok (.iconst 0, 1) := by decide +kernel
theorem dX10_chain_22 : decode cX10_chain 22 = .ok (.istore_n 3, 1) := by decide +kernel
theorem dX10_chain_23 : decode cX10_chain 23 = .ok (.iload_n 2, 1) := by decide +kernel
theorem dX10_chain_24 : decode cX10_chain 24 = .ok (.iconst (-1), 1) := by decide +kernel
theorem dX10_chain_25 : decode cX10_chain 25 = .ok (.if_icmp .eq 46, 3) := by decide +kernel
theorem dX10_chain_28 : decode cX10_chain 28 = .ok (.iinc 3 1, 3) := by decide +kernel
theorem dX10_chain_31 : decode cX10_chain 31 = .ok (.aload_n 0, 1) := by decide +kernel
theorem dX10_chain_32 : decode cX10_chain 32 = .ok (.iload_n 1, 1) := by decide +kernel
theorem dX10_chain_33 : decode cX10_chain 33 = .ok (.iload_n 2, 1) := by decide +kernel
theorem dX10_chain_34 : decode cX10_chain 34 = .ok (.invokevirtual 235, 3) := by decide +kernel
theorem dX10_chain_37 : decode cX10_chain 37 = .ok (.istore 4, 2) := by decide +kernel
theorem dX10_chain_39 : decode cX10_chain 39 = .ok (.iload 4, 2) := by decide +kernel
theorem dX10_chain_41 : decode cX10_chain 41 = .ok (.iconst (-1), 1) := by decide +kernel
theorem dX10_chain_42 : decode cX10_chain 42 = .ok (.if_icmp .eq 24, 3) := by decide +kernel
theorem dX10_chain_45 : decode cX10_chain 45 = .ok (.aload_n 0, 1) := by decide +kernel
theorem dX10_chain_46 : decode cX10_chain 46 = .ok (.getfield 65, 3) := by decide +kernel
theorem dX10_chain_49 : decode cX10_chain 49 = .ok (.iload 4, 2) := by decide +kernel
theorem dX10_chain_51 : decode cX10_chain 51 = .ok (.iaload, 1) := by decide +kernel
theorem dX10_chain_52 : decode cX10_chain 52 = .ok (.aload_n 0, 1) := by decide +kernel
theorem dX10_chain_53 : decode cX10_chain 53 = .ok (.getfield 62, 3) := by decide +kernel
theorem dX10_chain_56 : decode cX10_chain 56 = .ok (.iload_n 2, 1) := by decide +kernel
theorem dX10_chain_57 : decode cX10_chain 57 = .ok (.iaload, 1) := by decide +kernel
theorem dX10_chain_58 : decode cX10_chain 58 = .ok (.if_icmp .ne 8, 3) := by decide +kernel
theorem dX10_chain_61 : decode cX10_chain 61 = .ok (.iload 4, 2) := by decide +kernel
theorem dX10_chain_63 : decode cX10_chain 63 = .ok (.goto 4, 3) := by decide +kernel
theorem dX10_chain_66 : decode cX10_chain 66 = .ok (.iconst (-1), 1) := by decide +kernel
theorem dX10_chain_67 : decode cX10_chain 67 = .ok (.istore_n 2, 1) := by decide +kernel
theorem dX10_chain_68 : decode cX10_chain 68 = .ok (.goto (-45), 3) := by decide +kernel
theorem dX10_chain_71 : decode cX10_chain 71 = .ok (.iload_n 3, 1) := by decide +kernel
theorem dX10_chain_72 : decode cX10_chain 72 = .ok (.ireturn, 1) := by decide +kernel
theorem dX10_handsOf_0 : decode cX10_handsOf 0 = .ok (.iconst 0, 1) := by decide +kernel
theorem dX10_handsOf_1 : decode cX10_handsOf 1 = .ok (.istore_n 2, 1) := by decide +kernel
theorem dX10_handsOf_2 : decode cX10_handsOf 2 = .ok (.iconst 0, 1) := by decide +kernel
theorem dX10_handsOf_3 : decode cX10_handsOf 3 = .ok (.istore_n 3, 1) := by decide +kernel
theorem dX10_handsOf_4 : decode cX10_handsOf 4 = .ok (.iload_n 3, 1) := by decide +kernel
theorem dX10_handsOf_5 : decode cX10_handsOf 5 = .ok (.aload_n 0, 1) := by decide +kernel
theorem dX10_handsOf_6 : decode cX10_handsOf 6 = .ok (.getfield 232, 3) := by decide +kernel
theorem dX10_handsOf_9 : decode cX10_handsOf 9 = .ok (.if_icmp .ge 43, 3) := by decide +kernel
theorem dX10_handsOf_12 : decode cX10_handsOf 12 = .ok (.iload_n 2, 1) := by decide +kernel
theorem dX10_handsOf_13 : decode cX10_handsOf 13 = .ok (.aload_n 0, 1) := by decide +kernel
theorem dX10_handsOf_14 : decode cX10_handsOf 14 = .ok (.getfield 59, 3) := by decide +kernel
theorem dX10_handsOf_17 : decode cX10_handsOf 17 = .ok (.iload_n 3, 1) := by decide +kernel
theorem dX10_handsOf_18 : decode cX10_handsOf 18 = .ok (.iaload, 1) := by decide +kernel
theorem dX10_handsOf_19 : decode cX10_handsOf 19 = .ok (.iload_n 1, 1) := by decide +kernel
theorem dX10_handsOf_20 : decode cX10_handsOf 20 = .ok (.if_icmp .ne 23, 3) := by decide +kernel
theorem dX10_handsOf_23 : decode cX10_handsOf 23 = .ok (.iconst 1, 1) := by decide +kernel
theorem dX10_handsOf_24 : decode cX10_handsOf 24 = .ok (.aload_n 0, 1) := by decide +kernel
theorem dX10_handsOf_25 : decode cX10_handsOf 25 = .ok (.getfield 62, 3) := by decide +kernel
theorem dX10_handsOf_28 : decode cX10_handsOf 28 = .ok (.iload_n 3, 1) := by decide +kernel
theorem dX10_handsOf_29 : decode cX10_handsOf 29 = .ok (.iaload, 1) := by decide +kernel
theorem dX10_handsOf_30 : decode cX10_handsOf 30 = .ok (.ishl, 1) := by decide +kernel
theorem dX10_handsOf_31 : decode cX10_handsOf 31 = .ok (.iconst 1, 1) := by decide +kernel
theorem dX10_handsOf_32 : decode cX10_handsOf 32 = .ok (.aload_n 0, 1) := by decide +kernel
theorem dX10_handsOf_33 : decode cX10_handsOf 33 = .ok (.getfield 65, 3) := by decide +kernel
theorem dX10_handsOf_36 : decode cX10_handsOf 36 = .ok (.iload_n 3, 1) := by decide +kernel
theorem dX10_handsOf_37 : decode cX10_handsOf 37 = .ok (.iaload, 1) := by decide +kernel
theorem dX10_handsOf_38 : decode cX10_handsOf 38 = .ok (.ishl, 1) := by decide +kernel
theorem dX10_handsOf_39 : decode cX10_handsOf 39 = .ok (.ior, 1) := by decide +kernel
theorem dX10_handsOf_40 : decode cX10_handsOf 40 = .ok (.goto 4, 3) := by decide +kernel
theorem dX10_handsOf_43 : decode cX10_handsOf 43 = .ok (.iconst 0, 1) := by decide +kernel
theorem dX10_handsOf_44 : decode cX10_handsOf 44 = .ok (.ior, 1) := by decide +kernel
theorem dX10_handsOf_45 : decode cX10_handsOf 45 = .ok (.istore_n 2, 1) := by decide +kernel
theorem dX10_handsOf_46 : decode cX10_handsOf 46 = .ok (.iinc 3 1, 3) := by decide +kernel
theorem dX10_handsOf_49 : decode cX10_handsOf 49 = .ok (.goto (-45), 3) := by decide +kernel
theorem dX10_handsOf_52 : decode cX10_handsOf 52 = .ok (.iload_n 2, 1) := by decide +kernel
theorem dX10_handsOf_53 : decode cX10_handsOf 53 = .ok (.ireturn, 1) := by decide +kernel
theorem dX10_falls_0 : decode cX10_falls 0 = .ok (.aload_n 0, 1) := by decide +kernel
theorem dX10_falls_1 : decode cX10_falls 1 = .ok (.iload_n 1, 1) := by decide +kernel
theorem dX10_falls_2 : decode cX10_falls 2 = .ok (.invokevirtual 186, 3) := by decide +kernel
theorem dX10_falls_5 : decode cX10_falls 5 = .ok (.ifCond .eq 15, 3) := by decide +kernel
theorem dX10_falls_8 : decode cX10_falls 8 = .ok (.iload_n 2, 1) := by decide +kernel
theorem dX10_falls_9 : decode cX10_falls 9 = .ok (.i2l, 1) := by decide +kernel
theorem dX10_falls_10 : decode cX10_falls 10 = .ok (.lconst 0, 1) := by decide +kernel
theorem dX10_falls_11 : decode cX10_falls 11 = .ok (.ldc2_w 172, 3) := by decide +kernel
theorem dX10_falls_14 : decode cX10_falls 14 = .ok (.invokestatic 149, 3) := by decide +kernel
theorem dX10_falls_17 : decode cX10_falls 17 = .ok (.ifCond .ne 7, 3) := by decide +kernel
theorem dX10_falls_20 : decode cX10_falls 20 = .ok (.ldc2_w 398, 3) := by decide +kernel
theorem dX10_falls_23 : decode cX10_falls 23 = .ok (.lreturn, 1) := by decide +kernel
theorem dX10_falls_24 : decode cX10_falls 24 = .ok (.aload_n 0, 1) := by decide +kernel
theorem dX10_falls_25 : decode cX10_falls 25 = .ok (.iload_n 1, 1) := by decide +kernel
theorem dX10_falls_26 : decode cX10_falls 26 = .ok (.invokevirtual 425, 3) := by decide +kernel
theorem dX10_falls_29 : decode cX10_falls 29 = .ok (.istore_n 3, 1) := by decide +kernel
theorem dX10_falls_30 : decode cX10_falls 30 = .ok (.lconst 0, 1) := by decide +kernel
theorem dX10_falls_31 : decode cX10_falls 31 = .ok (.lstore 4, 2) := by decide +kernel
theorem dX10_falls_33 : decode cX10_falls 33 = .ok (.iconst 0, 1) := by decide +kernel
theorem dX10_falls_34 : decode cX10_falls 34 = .ok (.istore 6, 2) := by decide +kernel
theorem dX10_falls_36 : decode cX10_falls 36 = .ok (.iload 6, 2) := by decide +kernel
theorem dX10_falls_38 : decode cX10_falls 38 = .ok (.aload_n 0, 1) := by decide +kernel
theorem dX10_falls_39 : decode cX10_falls 39 = .ok (.getfield 174, 3) := by decide +kernel
theorem dX10_falls_42 : decode cX10_falls 42 = .ok (.if_icmp .ge 61, 3) := by decide +kernel
theorem dX10_falls_45 : decode cX10_falls 45 = .ok (.lload 4, 2) := by decide +kernel
theorem dX10_falls_47 : decode cX10_falls 47 = .ok (.aload_n 0, 1) := by decide +kernel
theorem dX10_falls_48 : decode cX10_falls 48 = .ok (.getfield 50, 3) := by decide +kernel
theorem dX10_falls_51 : decode cX10_falls 51 = .ok (.iload 6, 2) := by decide +kernel
theorem dX10_falls_53 : decode cX10_falls 53 = .ok (.iaload, 1) := by decide +kernel
theorem dX10_falls_54 : decode cX10_falls 54 = .ok (.aload_n 0, 1) := by decide +kernel
theorem dX10_falls_55 : decode cX10_falls 55 = .ok (.getfield 50, 3) := by decide +kernel
theorem dX10_falls_58 : decode cX10_falls 58 = .ok (.iload_n 1, 1) := by decide +kernel
theorem dX10_falls_59 : decode cX10_falls 59 = .ok (.iaload, 1) := by decide +kernel
theorem dX10_falls_60 : decode cX10_falls 60 = .ok (.if_icmp .eq 14, 3) := by decide +kernel
theorem dX10_falls_63 : decode cX10_falls 63 = .ok (.aload_n 0, 1) := by decide +kernel
theorem dX10_falls_64 : decode cX10_falls 64 = .ok (.iload 6, 2) := by decide +kernel
theorem dX10_falls_66 : decode cX10_falls 66 = .ok (.invokevirtual 425, 3) := by decide +kernel
theorem dX10_falls_69 : decode cX10_falls 69 = .ok (.iload_n 3, 1) := by decide +kernel
theorem dX10_falls_70 : decode cX10_falls 70 = .ok (.iand, 1) := by decide +kernel
theorem dX10_falls_71 : decode cX10_falls 71 = .ok (.ifCond .eq 22, 3) := by decide +kernel
theorem dX10_falls_74 : decode cX10_falls 74 = .ok (.aload_n 0, 1) := by decide +kernel
theorem dX10_falls_75 : decode cX10_falls 75 = .ok (.iload 6, 2) := by decide +kernel
theorem dX10_falls_77 : decode cX10_falls 77 = .ok (.invokevirtual 209, 3) := by decide +kernel
theorem dX10_falls_80 : decode cX10_falls 80 = .ok (.ifCond .ne 13, 3) := by decide +kernel
theorem dX10_falls_83 : decode cX10_falls 83 = .ok (.aload_n 0, 1) := by decide +kernel
theorem dX10_falls_84 : decode cX10_falls 84 = .ok (.iload 6, 2) := by decide +kernel
theorem dX10_falls_86 : decode cX10_falls 86 = .ok (.invokevirtual 224, 3) := by decide +kernel
theorem dX10_falls_89 : decode cX10_falls 89 = .ok (.i2l, 1) := by decide +kernel
theorem dX10_falls_90 : decode cX10_falls 90 = .ok (.goto 4, 3) := by decide +kernel
theorem dX10_falls_93 : decode cX10_falls 93 = .ok (.lconst 0, 1) := by decide +kernel
theorem dX10_falls_94 : decode cX10_falls 94 = .ok (.ladd, 1) := by decide +kernel
theorem dX10_falls_95 : decode cX10_falls 95 = .ok (.lstore 4, 2) := by decide +kernel
theorem dX10_falls_97 : decode cX10_falls 97 = .ok (.iinc 6 1, 3) := by decide +kernel
theorem dX10_falls_100 : decode cX10_falls 100 = .ok (.goto (-64), 3) := by decide +kernel
theorem dX10_falls_103 : decode cX10_falls 103 = .ok (.lload 4, 2) := by decide +kernel
theorem dX10_falls_105 : decode cX10_falls 105 = .ok (.iload_n 2, 1) := by decide +kernel
theorem dX10_falls_106 : decode cX10_falls 106 = .ok (.i2l, 1) := by decide +kernel
theorem dX10_falls_107 : decode cX10_falls 107 = .ok (.lmul, 1) := by decide +kernel
theorem dX10_falls_108 : decode cX10_falls 108 = .ok (.ldc2_w 172, 3) := by decide +kernel
theorem dX10_falls_111 : decode cX10_falls 111 = .ok (.ldiv, 1) := by decide +kernel
theorem dX10_falls_112 : decode cX10_falls 112 = .ok (.lreturn, 1) := by decide +kernel
theorem dX10_saw_0 : decode cX10_saw 0 = .ok (.iload_n 1, 1) := by decide +kernel
theorem dX10_saw_1 : decode cX10_saw 1 = .ok (.i2l, 1) := by decide +kernel
theorem dX10_saw_2 : decode cX10_saw 2 = .ok (.lconst 0, 1) := by decide +kernel
theorem dX10_saw_3 : decode cX10_saw 3 = .ok (.aload_n 0, 1) := by decide +kernel
theorem dX10_saw_4 : decode cX10_saw 4 = .ok (.getfield 232, 3) := by decide +kernel
theorem dX10_saw_7 : decode cX10_saw 7 = .ok (.iconst 1, 1) := by decide +kernel
theorem dX10_saw_8 : decode cX10_saw 8 = .ok (.isub, 1) := by decide +kernel
theorem dX10_saw_9 : decode cX10_saw 9 = .ok (.i2l, 1) := by decide +kernel
theorem dX10_saw_10 : decode cX10_saw 10 = .ok (.invokestatic 149, 3) := by decide +kernel
theorem dX10_saw_13 : decode cX10_saw 13 = .ok (.ifCond .ne 6, 3) := by decide +kernel
theorem dX10_saw_16 : decode cX10_saw 16 = .ok (.bipush (-2), 2) := by decide +kernel
theorem dX10_saw_18 : decode cX10_saw 18 = .ok (.ireturn, 1) := by decide +kernel
theorem dX10_saw_19 : decode cX10_saw 19 = .ok (.iconst 0, 1) := by decide +kernel
theorem dX10_saw_20 : decode cX10_saw 20 = .ok (.istore_n 2, 1) := by decide +kernel
theorem dX10_saw_21 : decode cX10_saw 21 = .ok (.iconst 0, 1) := by decide +kernel
theorem dX10_saw_22 : decode cX10_saw 22 = .ok (.istore_n 3, 1) := by decide +kernel
theorem dX10_saw_23 : decode cX10_saw 23 = .ok (.iload_n 3, 1) := by decide +kernel
theorem dX10_saw_24 : decode cX10_saw 24 = .ok (.iconst 3, 1) := by decide +kernel
theorem dX10_saw_25 : decode cX10_saw 25 = .ok (.if_icmp .ge 48, 3) := by decide +kernel
theorem dX10_saw_28 : decode cX10_saw 28 = .ok (.iload_n 2, 1) := by decide +kernel
theorem dX10_saw_29 : decode cX10_saw 29 = .ok (.ifCond .ne 32, 3) := by decide +kernel
theorem dX10_saw_32 : decode cX10_saw 32 = .ok (.aload_n 0, 1) := by decide +kernel
theorem dX10_saw_33 : decode cX10_saw 33 = .ok (.aload_n 0, 1) := by decide +kernel
theorem dX10_saw_34 : decode cX10_saw 34 = .ok (.getfield 59, 3) := by decide +kernel
theorem dX10_saw_37 : decode cX10_saw 37 = .ok (.iload_n 1, 1) := by decide +kernel
theorem dX10_saw_38 : decode cX10_saw 38 = .ok (.iaload, 1) := by decide +kernel
theorem dX10_saw_39 : decode cX10_saw 39 = .ok (.iload_n 3, 1) := by decide +kernel
theorem dX10_saw_40 : decode cX10_saw 40 = .ok (.invokevirtual 195, 3) := by decide +kernel
theorem dX10_saw_43 : decode cX10_saw 43 = .ok (.ifCond .eq 22, 3) := by decide +kernel
theorem dX10_saw_46 : decode cX10_saw 46 = .ok (.aload_n 0, 1) := by decide +kernel
theorem dX10_saw_47 : decode cX10_saw 47 = .ok (.getfield 44, 3) := by decide +kernel
theorem dX10_saw_50 : decode cX10_saw 50 = .ok (.iload_n 3, 1) := by decide +kernel
theorem dX10_saw_51 : decode cX10_saw 51 = .ok (.iaload, 1) := by decide +kernel
theorem dX10_saw_52 : decode cX10_saw 52 = .ok (.aload_n 0, 1) := by decide +kernel
theorem dX10_saw_53 : decode cX10_saw 53 = .ok (.getfield 71, 3) := by decide +kernel
theorem dX10_saw_56 : decode cX10_saw 56 = .ok (.iload_n 1, 1) := by decide +kernel
theorem dX10_saw_57 : decode cX10_saw 57 = .ok (.iaload, 1) := by decide +kernel
theorem dX10_saw_58 : decode cX10_saw 58 = .ok (.if_icmp .gt 7, 3) := by decide +kernel
theorem dX10_saw_61 : decode cX10_saw 61 = .ok (.iconst 1, 1) := by decide +kernel
theorem dX10_saw_62 : decode cX10_saw 62 = .ok (.goto 4, 3) := by decide +kernel
theorem dX10_saw_65 : decode cX10_saw 65 = .ok (.iconst 0, 1) := by decide +kernel
theorem dX10_saw_66 : decode cX10_saw 66 = .ok (.istore_n 2, 1) := by decide +kernel
theorem dX10_saw_67 : decode cX10_saw 67 = .ok (.iinc 3 1, 3) := by decide +kernel
theorem dX10_saw_70 : decode cX10_saw 70 = .ok (.goto (-47), 3) := by decide +kernel
theorem dX10_saw_73 : decode cX10_saw 73 = .ok (.iload_n 2, 1) := by decide +kernel
theorem dX10_saw_74 : decode cX10_saw 74 = .ok (.ifCond .eq 7, 3) := by decide +kernel
theorem dX10_saw_77 : decode cX10_saw 77 = .ok (.iconst 1, 1) := by decide +kernel
theorem dX10_saw_78 : decode cX10_saw 78 = .ok (.goto 4, 3) := by decide +kernel
theorem dX10_saw_81 : decode cX10_saw 81 = .ok (.iconst 0, 1) := by decide +kernel
theorem dX10_saw_82 : decode cX10_saw 82 = .ok (.ireturn, 1) := by decide +kernel
theorem dX10_image_0 : decode cX10_image 0 = .ok (.aload_n 0, 1) := by decide +kernel
theorem dX10_image_1 : decode cX10_image 1 = .ok (.iconst 1, 1) := by decide +kernel
theorem dX10_image_2 : decode cX10_image 2 = .ok (.putfield 428, 3) := by decide +kernel
theorem dX10_image_5 : decode cX10_image 5 = .ok (.aload_n 0, 1) := by decide +kernel
theorem dX10_image_6 : decode cX10_image 6 = .ok (.aload_n 0, 1) := by decide +kernel
theorem dX10_image_7 : decode cX10_image 7 = .ok (.getfield 146, 3) := by decide +kernel
theorem dX10_image_10 : decode cX10_image 10 = .ok (.putfield 431, 3) := by decide +kernel
theorem dX10_image_13 : decode cX10_image 13 = .ok (.aload_n 0, 1) := by decide +kernel
theorem dX10_image_14 : decode cX10_image 14 = .ok (.aload_n 0, 1) := by decide +kernel
theorem dX10_image_15 : decode cX10_image 15 = .ok (.getfield 232, 3) := by decide +kernel
theorem dX10_image_18 : decode cX10_image 18 = .ok (.putfield 434, 3) := by decide +kernel
theorem dX10_image_21 : decode cX10_image 21 = .ok (.aload_n 0, 1) := by decide +kernel
theorem dX10_image_22 : decode cX10_image 22 = .ok (.aload_n 0, 1) := by decide +kernel
theorem dX10_image_23 : decode cX10_image 23 = .ok (.getfield 382, 3) := by decide +kernel
theorem dX10_image_26 : decode cX10_image 26 = .ok (.putfield 437, 3) := by decide +kernel
theorem dX10_image_29 : decode cX10_image 29 = .ok (.iconst 0, 1) := by decide +kernel
theorem dX10_image_30 : decode cX10_image 30 = .ok (.istore_n 1, 1) := by decide +kernel
theorem dX10_image_31 : decode cX10_image 31 = .ok (.iload_n 1, 1) := by decide +kernel
theorem dX10_image_32 : decode cX10_image 32 = .ok (.aload_n 0, 1) := by decide +kernel
theorem dX10_image_33 : decode cX10_image 33 = .ok (.getfield 146, 3) := by decide +kernel
theorem dX10_image_36 : decode cX10_image 36 = .ok (.if_icmp .ge 21, 3) := by decide +kernel
theorem dX10_image_39 : decode cX10_image 39 = .ok (.aload_n 0, 1) := by decide +kernel
theorem dX10_image_40 : decode cX10_image 40 = .ok (.getfield 92, 3) := by decide +kernel
theorem dX10_image_43 : decode cX10_image 43 = .ok (.iload_n 1, 1) := by decide +kernel
theorem dX10_image_44 : decode cX10_image 44 = .ok (.aload_n 0, 1) := by decide +kernel
theorem dX10_image_45 : decode cX10_image 45 = .ok (.getfield 29, 3) := by decide +kernel
theorem dX10_image_48 : decode cX10_image 48 = .ok (.iload_n 1, 1) := by decide +kernel
theorem dX10_image_49 : decode cX10_image 49 = .ok (.iaload, 1) := by decide +kernel
theorem dX10_image_50 : decode cX10_image 50 = .ok (.iastore, 1) := by decide +kernel
theorem dX10_image_51 : decode cX10_image 51 = .ok (.iinc 1 1, 3) := by decide +kernel
theorem dX10_image_54 : decode cX10_image 54 = .ok (.goto (-23), 3) := by decide +kernel
theorem dX10_image_57 : decode cX10_image 57 = .ok (.iconst 0, 1) := by decide +kernel
theorem dX10_image_58 : decode cX10_image 58 = .ok (.istore_n 1, 1) := by decide +kernel
theorem dX10_image_59 : decode cX10_image 59 = .ok (.iload_n 1, 1) := by decide +kernel
theorem dX10_image_60 : decode cX10_image 60 = .ok (.bipush 12, 2) := by decide +kernel
theorem dX10_image_62 : decode cX10_image 62 = .ok (.if_icmp .ge 33, 3) := by decide +kernel
theorem dX10_image_65 : decode cX10_image 65 = .ok (.aload_n 0, 1) := by decide +kernel
theorem dX10_image_66 : decode cX10_image 66 = .ok (.getfield 95, 3) := by decide +kernel
theorem dX10_image_69 : decode cX10_image 69 = .ok (.iload_n 1, 1) := by decide +kernel
theorem dX10_image_70 : decode cX10_image 70 = .ok (.aload_n 0, 1) := by decide +kernel
theorem dX10_image_71 : decode cX10_image 71 = .ok (.getfield 38, 3) := by decide +kernel
theorem dX10_image_74 : decode cX10_image 74 = .ok (.iload_n 1, 1) := by decide +kernel
theorem dX10_image_75 : decode cX10_image 75 = .ok (.iaload, 1) := by decide +kernel
theorem dX10_image_76 : decode cX10_image 76 = .ok (.iastore, 1) := by decide +kernel
theorem dX10_image_77 : decode cX10_image 77 = .ok (.aload_n 0, 1) := by decide +kernel
theorem dX10_image_78 : decode cX10_image 78 = .ok (.getfield 98, 3) := by decide +kernel
theorem dX10_image_81 : decode cX10_image 81 = .ok (.iload_n 1, 1) := by decide +kernel
theorem dX10_image_82 : decode cX10_image 82 = .ok (.aload_n 0, 1) := by decide +kernel
theorem dX10_image_83 : decode cX10_image 83 = .ok (.getfield 41, 3) := by decide +kernel
theorem dX10_image_86 : decode cX10_image 86 = .ok (.iload_n 1, 1) := by decide +kernel
theorem dX10_image_87 : decode cX10_image 87 = .ok (.iaload, 1) := by decide +kernel
theorem dX10_image_88 : decode cX10_image 88 = .ok (.iastore, 1) := by decide +kernel
theorem dX10_image_89 : decode cX10_image 89 = .ok (.iinc 1 1, 3) := by decide +kernel
theorem dX10_image_92 : decode cX10_image 92 = .ok (.goto (-33), 3) := by decide +kernel
theorem dX10_image_95 : decode cX10_image 95 = .ok (.iconst 0, 1) := by decide +kernel
theorem dX10_image_96 : decode cX10_image 96 = .ok (.istore_n 1, 1) := by decide +kernel
theorem dX10_image_97 : decode cX10_image 97 = .ok (.iload_n 1, 1) := by decide +kernel
theorem dX10_image_98 : decode cX10_image 98 = .ok (.iconst 3, 1) := by decide +kernel
theorem dX10_image_99 : decode cX10_image 99 = .ok (.if_icmp .ge 21, 3) := by decide +kernel
theorem dX10_image_102 : decode cX10_image 102 = .ok (.aload_n 0, 1) := by decide +kernel
theorem dX10_image_103 : decode cX10_image 103 = .ok (.getfield 101, 3) := by decide +kernel
theorem dX10_image_106 : decode cX10_image 106 = .ok (.iload_n 1, 1) := by decide +kernel
theorem dX10_image_107 : decode cX10_image 107 = .ok (.aload_n 0, 1) := by decide +kernel
theorem dX10_image_108 : decode cX10_image 108 = .ok (.getfield 44, 3) := by decide +kernel
theorem dX10_image_111 : decode cX10_image 111 = .ok (.iload_n 1, 1) := by decide +kernel
theorem dX10_image_112 : decode cX10_image 112 = .ok (.iaload, 1) := by decide +kernel
theorem dX10_image_113 : decode cX10_image 113 = .ok (.iastore, 1) := by decide +kernel
theorem dX10_image_114 : decode cX10_image 114 = .ok (.iinc 1 1, 3) := by decide +kernel
theorem dX10_image_117 : decode cX10_image 117 = .ok (.goto (-20), 3) := by decide +kernel
theorem dX10_image_120 : decode cX10_image 120 = .ok (.aload_n 0, 1) := by decide +kernel
theorem dX10_image_121 : decode cX10_image 121 = .ok (.getfield 232, 3) := by decide +kernel
theorem dX10_image_124 : decode cX10_image 124 = .ok (.ireturn, 1) := by decide +kernel
theorem dX10_back_0 : decode cX10_back 0 = .ok (.aload_n 0, 1) := by decide +kernel
theorem dX10_back_1 : decode cX10_back 1 = .ok (.getfield 428, 3) := by decide +kernel
theorem dX10_back_4 : decode cX10_back 4 = .ok (.ifCond .ne 6, 3) := by decide +kernel
theorem dX10_back_7 : decode cX10_back 7 = .ok (.bipush (-3), 2) := by decide +kernel
theorem dX10_back_9 : decode cX10_back 9 = .ok (.ireturn, 1) := by decide +kernel
theorem dX10_back_10 : decode cX10_back 10 = .ok (.aload_n 0, 1) := by decide +kernel
theorem dX10_back_11 : decode cX10_back 11 = .ok (.aload_n 0, 1) := by decide +kernel
theorem dX10_back_12 : decode cX10_back 12 = .ok (.getfield 434, 3) := by decide +kernel
theorem dX10_back_15 : decode cX10_back 15 = .ok (.putfield 232, 3) := by decide +kernel
theorem dX10_back_18 : decode cX10_back 18 = .ok (.aload_n 0, 1) := by decide +kernel
theorem dX10_back_19 : decode cX10_back 19 = .ok (.aload_n 0, 1) := by decide +kernel
theorem dX10_back_20 : decode cX10_back 20 = .ok (.getfield 437, 3) := by decide +kernel
theorem dX10_back_23 : decode cX10_back 23 = .ok (.putfield 382, 3) := by decide +kernel
theorem dX10_back_26 : decode cX10_back 26 = .ok (.iconst 0, 1) := by decide +kernel
theorem dX10_back_27 : decode cX10_back 27 = .ok (.istore_n 1, 1) := by decide +kernel
theorem dX10_back_28 : decode cX10_back 28 = .ok (.iload_n 1, 1) := by decide +kernel
theorem dX10_back_29 : decode cX10_back 29 = .ok (.aload_n 0, 1) := by decide +kernel
theorem dX10_back_30 : decode cX10_back 30 = .ok (.getfield 431, 3) := by decide +kernel
theorem dX10_back_33 : decode cX10_back 33 = .ok (.if_icmp .ge 21, 3) := by decide +kernel
theorem dX10_back_36 : decode cX10_back 36 = .ok (.aload_n 0, 1) := by decide +kernel
theorem dX10_back_37 : decode cX10_back 37 = .ok (.getfield 29, 3) := by decide +kernel
theorem dX10_back_40 : decode cX10_back 40 = .ok (.iload_n 1, 1) := by decide +kernel
theorem dX10_back_41 : decode cX10_back 41 = .ok (.aload_n 0, 1) := by decide +kernel
theorem dX10_back_42 : decode cX10_back 42 = .ok (.getfield 92, 3) := by decide +kernel
theorem dX10_back_45 : decode cX10_back 45 = .ok (.iload_n 1, 1) := by decide +kernel
theorem dX10_back_46 : decode cX10_back 46 = .ok (.iaload, 1) := by decide +kernel
theorem dX10_back_47 : decode cX10_back 47 = .ok (.iastore, 1) := by decide +kernel
theorem dX10_back_48 : decode cX10_back 48 = .ok (.iinc 1 1, 3) := by decide +kernel
theorem dX10_back_51 : decode cX10_back 51 = .ok (.goto (-23), 3) := by decide +kernel
theorem dX10_back_54 : decode cX10_back 54 = .ok (.iconst 0, 1) := by decide +kernel
theorem dX10_back_55 : decode cX10_back 55 = .ok (.istore_n 1, 1) := by decide +kernel
theorem dX10_back_56 : decode cX10_back 56 = .ok (.iload_n 1, 1) := by decide +kernel
theorem dX10_back_57 : decode cX10_back 57 = .ok (.bipush 12, 2) := by decide +kernel
theorem dX10_back_59 : decode cX10_back 59 = .ok (.if_icmp .ge 33, 3) := by decide +kernel
theorem dX10_back_62 : decode cX10_back 62 = .ok (.aload_n 0, 1) := by decide +kernel
theorem dX10_back_63 : decode cX10_back 63 = .ok (.getfield 38, 3) := by decide +kernel
theorem dX10_back_66 : decode cX10_back 66 = .ok (.iload_n 1, 1) := by decide +kernel
theorem dX10_back_67 : decode cX10_back 67 = .ok (.aload_n 0, 1) := by decide +kernel
theorem dX10_back_68 : decode cX10_back 68 = .ok (.getfield 95, 3) := by decide +kernel
theorem dX10_back_71 : decode cX10_back 71 = .ok (.iload_n 1, 1) := by decide +kernel
theorem dX10_back_72 : decode cX10_back 72 = .ok (.iaload, 1) := by decide +kernel
theorem dX10_back_73 : decode cX10_back 73 = .ok (.iastore, 1) := by decide +kernel
theorem dX10_back_74 : decode cX10_back 74 = .ok (.aload_n 0, 1) := by decide +kernel
theorem dX10_back_75 : decode cX10_back 75 = .ok (.getfield 41, 3) := by decide +kernel
theorem dX10_back_78 : decode cX10_back 78 = .ok (.iload_n 1, 1) := by decide +kernel
theorem dX10_back_79 : decode cX10_back 79 = .ok (.aload_n 0, 1) := by decide +kernel
theorem dX10_back_80 : decode cX10_back 80 = .ok (.getfield 98, 3) := by decide +kernel
theorem dX10_back_83 : decode cX10_back 83 = .ok (.iload_n 1, 1) := by decide +kernel
theorem dX10_back_84 : decode cX10_back 84 = .ok (.iaload, 1) := by decide +kernel
theorem dX10_back_85 : decode cX10_back 85 = .ok (.iastore, 1) := by decide +kernel
theorem dX10_back_86 : decode cX10_back 86 = .ok (.iinc 1 1, 3) := by decide +kernel
theorem dX10_back_89 : decode cX10_back 89 = .ok (.goto (-33), 3) := by decide +kernel
theorem dX10_back_92 : decode cX10_back 92 = .ok (.iconst 0, 1) := by decide +kernel
theorem dX10_back_93 : decode cX10_back 93 = .ok (.istore_n 1, 1) := by decide +kernel
theorem dX10_back_94 : decode cX10_back 94 = .ok (.iload_n 1, 1) := by decide +kernel
theorem dX10_back_95 : decode cX10_back 95 = .ok (.iconst 3, 1) := by decide +kernel
theorem dX10_back_96 : decode cX10_back 96 = .ok (.if_icmp .ge 21, 3) := by decide +kernel
theorem dX10_back_99 : decode cX10_back 99 = .ok (.aload_n 0, 1) := by decide +kernel
theorem dX10_back_100 : decode cX10_back 100 = .ok (.getfield 44, 3) := by decide +kernel
theorem dX10_back_103 : decode cX10_back 103 = .ok (.iload_n 1, 1) := by decide +kernel
theorem dX10_back_104 : decode cX10_back 104 = .ok (.aload_n 0, 1) := by decide +kernel
theorem dX10_back_105 : decode cX10_back 105 = .ok (.getfield 101, 3) := by decide +kernel
theorem dX10_back_108 : decode cX10_back 108 = .ok (.iload_n 1, 1) := by decide +kernel
theorem dX10_back_109 : decode cX10_back 109 = .ok (.iaload, 1) := by decide +kernel
theorem dX10_back_110 : decode cX10_back 110 = .ok (.iastore, 1) := by decide +kernel
theorem dX10_back_111 : decode cX10_back 111 = .ok (.iinc 1 1, 3) := by decide +kernel
theorem dX10_back_114 : decode cX10_back 114 = .ok (.goto (-20), 3) := by decide +kernel
theorem dX10_back_117 : decode cX10_back 117 = .ok (.aload_n 0, 1) := by decide +kernel
theorem dX10_back_118 : decode cX10_back 118 = .ok (.getfield 232, 3) := by decide +kernel
theorem dX10_back_121 : decode cX10_back 121 = .ok (.ireturn, 1) := by decide +kernel
theorem dX10_count_0 : decode cX10_count 0 = .ok (.iconst 0, 1) := by decide +kernel
theorem dX10_count_1 : decode cX10_count 1 = .ok (.istore_n 2, 1) := by decide +kernel
theorem dX10_count_2 : decode cX10_count 2 = .ok (.iload_n 1, 1) := by decide +kernel
theorem dX10_count_3 : decode cX10_count 3 = .ok (.tableswitch 144 0 7 #[45, 50, 55, 60, 65, 70, 75, 109], 45) := by decide +kernel
theorem dX10_count_48 : decode cX10_count 48 = .ok (.aload_n 0, 1) := by decide +kernel
theorem dX10_count_49 : decode cX10_count 49 = .ok (.getfield 146, 3) := by decide +kernel
theorem dX10_count_52 : decode cX10_count 52 = .ok (.ireturn, 1) := by decide +kernel
theorem dX10_count_53 : decode cX10_count 53 = .ok (.aload_n 0, 1) := by decide +kernel
theorem dX10_count_54 : decode cX10_count 54 = .ok (.getfield 174, 3) := by decide +kernel
theorem dX10_count_57 : decode cX10_count 57 = .ok (.ireturn, 1) := by decide +kernel
theorem dX10_count_58 : decode cX10_count 58 = .ok (.aload_n 0, 1) := by decide +kernel
theorem dX10_count_59 : decode cX10_count 59 = .ok (.getfield 232, 3) := by decide +kernel
theorem dX10_count_62 : decode cX10_count 62 = .ok (.ireturn, 1) := by decide +kernel
theorem dX10_count_63 : decode cX10_count 63 = .ok (.aload_n 0, 1) := by decide +kernel
theorem dX10_count_64 : decode cX10_count 64 = .ok (.getfield 141, 3) := by decide +kernel
theorem dX10_count_67 : decode cX10_count 67 = .ok (.ireturn, 1) := by decide +kernel
theorem dX10_count_68 : decode cX10_count 68 = .ok (.aload_n 0, 1) := by decide +kernel
theorem dX10_count_69 : decode cX10_count 69 = .ok (.getfield 240, 3) := by decide +kernel
theorem dX10_count_72 : decode cX10_count 72 = .ok (.ireturn, 1) := by decide +kernel
theorem dX10_count_73 : decode cX10_count 73 = .ok (.aload_n 0, 1) := by decide +kernel
theorem dX10_count_74 : decode cX10_count 74 = .ok (.getfield 382, 3) := by decide +kernel
theorem dX10_count_77 : decode cX10_count 77 = .ok (.ireturn, 1) := by decide +kernel
theorem dX10_count_78 : decode cX10_count 78 = .ok (.iconst 0, 1) := by decide +kernel
theorem dX10_count_79 : decode cX10_count 79 = .ok (.istore_n 3, 1) := by decide +kernel
theorem dX10_count_80 : decode cX10_count 80 = .ok (.iload_n 3, 1) := by decide +kernel
theorem dX10_count_81 : decode cX10_count 81 = .ok (.aload_n 0, 1) := by decide +kernel
theorem dX10_count_82 : decode cX10_count 82 = .ok (.getfield 174, 3) := by decide +kernel
theorem dX10_count_85 : decode cX10_count 85 = .ok (.if_icmp .ge 25, 3) := by decide +kernel
theorem dX10_count_88 : decode cX10_count 88 = .ok (.iload_n 2, 1) := by decide +kernel
theorem dX10_count_89 : decode cX10_count 89 = .ok (.aload_n 0, 1) := by decide +kernel
theorem dX10_count_90 : decode cX10_count 90 = .ok (.iload_n 3, 1) := by decide +kernel
theorem dX10_count_91 : decode cX10_count 91 = .ok (.invokevirtual 209, 3) := by decide +kernel
theorem dX10_count_94 : decode cX10_count 94 = .ok (.ifCond .eq 7, 3) := by decide +kernel
theorem dX10_count_97 : decode cX10_count 97 = .ok (.iconst 1, 1) := by decide +kernel
theorem dX10_count_98 : decode cX10_count 98 = .ok (.goto 4, 3) := by decide +kernel
theorem dX10_count_101 : decode cX10_count 101 = .ok (.iconst 0, 1) := by decide +kernel
theorem dX10_count_102 : decode cX10_count 102 = .ok (.iadd, 1) := by decide +kernel
theorem dX10_count_103 : decode cX10_count 103 = .ok (.istore_n 2, 1) := by decide +kernel
theorem dX10_count_104 : decode cX10_count 104 = .ok (.iinc 3 1, 3) := by decide +kernel
theorem dX10_count_107 : decode cX10_count 107 = .ok (.goto (-27), 3) := by decide +kernel
theorem dX10_count_110 : decode cX10_count 110 = .ok (.iload_n 2, 1) := by decide +kernel
theorem dX10_count_111 : decode cX10_count 111 = .ok (.ireturn, 1) := by decide +kernel
theorem dX10_count_112 : decode cX10_count 112 = .ok (.iconst 0, 1) := by decide +kernel
theorem dX10_count_113 : decode cX10_count 113 = .ok (.istore_n 3, 1) := by decide +kernel
theorem dX10_count_114 : decode cX10_count 114 = .ok (.iload_n 3, 1) := by decide +kernel
theorem dX10_count_115 : decode cX10_count 115 = .ok (.aload_n 0, 1) := by decide +kernel
theorem dX10_count_116 : decode cX10_count 116 = .ok (.getfield 174, 3) := by decide +kernel
theorem dX10_count_119 : decode cX10_count 119 = .ok (.if_icmp .ge 26, 3) := by decide +kernel
theorem dX10_count_122 : decode cX10_count 122 = .ok (.iload_n 2, 1) := by decide +kernel
theorem dX10_count_123 : decode cX10_count 123 = .ok (.aload_n 0, 1) := by decide +kernel
theorem dX10_count_124 : decode cX10_count 124 = .ok (.iload_n 3, 1) := by decide +kernel
theorem dX10_count_125 : decode cX10_count 125 = .ok (.invokevirtual 218, 3) := by decide +kernel
theorem dX10_count_128 : decode cX10_count 128 = .ok (.iconst (-1), 1) := by decide +kernel
theorem dX10_count_129 : decode cX10_count 129 = .ok (.if_icmp .eq 7, 3) := by decide +kernel
theorem dX10_count_132 : decode cX10_count 132 = .ok (.iconst 1, 1) := by decide +kernel
theorem dX10_count_133 : decode cX10_count 133 = .ok (.goto 4, 3) := by decide +kernel
theorem dX10_count_136 : decode cX10_count 136 = .ok (.iconst 0, 1) := by decide +kernel
theorem dX10_count_137 : decode cX10_count 137 = .ok (.iadd, 1) := by decide +kernel
theorem dX10_count_138 : decode cX10_count 138 = .ok (.istore_n 2, 1) := by decide +kernel
theorem dX10_count_139 : decode cX10_count 139 = .ok (.iinc 3 1, 3) := by decide +kernel
theorem dX10_count_142 : decode cX10_count 142 = .ok (.goto (-28), 3) := by decide +kernel
theorem dX10_count_145 : decode cX10_count 145 = .ok (.iload_n 2, 1) := by decide +kernel
theorem dX10_count_146 : decode cX10_count 146 = .ok (.ireturn, 1) := by decide +kernel
theorem dX10_count_147 : decode cX10_count 147 = .ok (.bipush (-2), 2) := by decide +kernel
theorem dX10_count_149 : decode cX10_count 149 = .ok (.ireturn, 1) := by decide +kernel
theorem dX10_isSheet_0 : decode cX10_isSheet 0 = .ok (.iload_n 0, 1) := by decide +kernel
theorem dX10_isSheet_1 : decode cX10_isSheet 1 = .ok (.i2l, 1) := by decide +kernel
theorem dX10_isSheet_2 : decode cX10_isSheet 2 = .ok (.lconst 0, 1) := by decide +kernel
theorem dX10_isSheet_3 : decode cX10_isSheet 3 = .ok (.ldc2_w 170, 3) := by decide +kernel
theorem dX10_isSheet_6 : decode cX10_isSheet 6 = .ok (.invokestatic 149, 3) := by decide +kernel
theorem dX10_isSheet_9 : decode cX10_isSheet 9 = .ok (.ireturn, 1) := by decide +kernel
theorem dX10_sheet_0 : decode cX10_sheet 0 = .ok (.iload_n 1, 1) := by decide +kernel
theorem dX10_sheet_1 : decode cX10_sheet 1 = .ok (.invokestatic 440, 3) := by decide +kernel
theorem dX10_sheet_4 : decode cX10_sheet 4 = .ok (.ifCond .eq 27, 3) := by decide +kernel
theorem dX10_sheet_7 : decode cX10_sheet 7 = .ok (.iload_n 2, 1) := by decide +kernel
theorem dX10_sheet_8 : decode cX10_sheet 8 = .ok (.i2l, 1) := by decide +kernel
theorem dX10_sheet_9 : decode cX10_sheet 9 = .ok (.ldc2_w 273, 3) := by decide +kernel
theorem dX10_sheet_12 : decode cX10_sheet 12 = .ok (.ldc2_w 168, 3) := by decide +kernel
theorem dX10_sheet_15 : decode cX10_sheet 15 = .ok (.invokestatic 149, 3) := by decide +kernel
theorem dX10_sheet_18 : decode cX10_sheet 18 = .ok (.ifCond .eq 13, 3) := by decide +kernel
theorem dX10_sheet_21 : decode cX10_sheet 21 = .ok (.iload_n 2, 1) := by decide +kernel
theorem dX10_sheet_22 : decode cX10_sheet 22 = .ok (.ifCond .lt 12, 3) := by decide +kernel
end
section
theorem dX10_sheet_25 : decode cX10_sheet 25 = .ok (.iload_n 3, 1) := by decide +kernel
theorem dX10_sheet_26 : decode cX10_sheet 26 = .ok (.bipush 40, 2) := by decide +kernel
theorem dX10_sheet_28 : decode cX10_sheet 28 = .ok (.if_icmp .le 6, 3) := by decide +kernel
theorem dX10_sheet_31 : decode cX10_sheet 31 = .ok (.bipush (-2), 2) := by decide +kernel
theorem dX10_sheet_33 : decode cX10_sheet 33 = .ok (.ireturn, 1) := by decide +kernel
theorem dX10_sheet_34 : decode cX10_sheet 34 = .ok (.iload_n 2, 1) := by decide +kernel
theorem dX10_sheet_35 : decode cX10_sheet 35 = .ok (.ifCond .lt 10, 3) := by decide +kernel
theorem dX10_sheet_38 : decode cX10_sheet 38 = .ok (.iload_n 3, 1) := by decide +kernel
theorem dX10_sheet_39 : decode cX10_sheet 39 = .ok (.ifCond .ge 6, 3) := by decide +kernel
theorem dX10_sheet_42 : decode cX10_sheet 42 = .ok (.bipush (-14), 2) := by decide +kernel
theorem dX10_sheet_44 : decode cX10_sheet 44 = .ok (.ireturn, 1) := by decide +kernel
theorem dX10_sheet_45 : decode cX10_sheet 45 = .ok (.aload_n 0, 1) := by decide +kernel
theorem dX10_sheet_46 : decode cX10_sheet 46 = .ok (.getfield 104, 3) := by decide +kernel
theorem dX10_sheet_49 : decode cX10_sheet 49 = .ok (.iload_n 1, 1) := by decide +kernel
theorem dX10_sheet_50 : decode cX10_sheet 50 = .ok (.iload_n 2, 1) := by decide +kernel
theorem dX10_sheet_51 : decode cX10_sheet 51 = .ok (.ifCond .lt 7, 3) := by decide +kernel
theorem dX10_sheet_54 : decode cX10_sheet 54 = .ok (.iconst 1, 1) := by decide +kernel
theorem dX10_sheet_55 : decode cX10_sheet 55 = .ok (.goto 4, 3) := by decide +kernel
theorem dX10_sheet_58 : decode cX10_sheet 58 = .ok (.iconst 0, 1) := by decide +kernel
theorem dX10_sheet_59 : decode cX10_sheet 59 = .ok (.bastore, 1) := by decide +kernel
theorem dX10_sheet_60 : decode cX10_sheet 60 = .ok (.aload_n 0, 1) := by decide +kernel
theorem dX10_sheet_61 : decode cX10_sheet 61 = .ok (.getfield 108, 3) := by decide +kernel
theorem dX10_sheet_64 : decode cX10_sheet 64 = .ok (.iload_n 1, 1) := by decide +kernel
theorem dX10_sheet_65 : decode cX10_sheet 65 = .ok (.iload_n 2, 1) := by decide +kernel
theorem dX10_sheet_66 : decode cX10_sheet 66 = .ok (.iastore, 1) := by decide +kernel
theorem dX10_sheet_67 : decode cX10_sheet 67 = .ok (.aload_n 0, 1) := by decide +kernel
theorem dX10_sheet_68 : decode cX10_sheet 68 = .ok (.getfield 111, 3) := by decide +kernel
theorem dX10_sheet_71 : decode cX10_sheet 71 = .ok (.iload_n 1, 1) := by decide +kernel
theorem dX10_sheet_72 : decode cX10_sheet 72 = .ok (.iload_n 3, 1) := by decide +kernel
theorem dX10_sheet_73 : decode cX10_sheet 73 = .ok (.iastore, 1) := by decide +kernel
theorem dX10_sheet_74 : decode cX10_sheet 74 = .ok (.iconst 0, 1) := by decide +kernel
theorem dX10_sheet_75 : decode cX10_sheet 75 = .ok (.istore 4, 2) := by decide +kernel
theorem dX10_sheet_77 : decode cX10_sheet 77 = .ok (.iload 4, 2) := by decide +kernel
theorem dX10_sheet_79 : decode cX10_sheet 79 = .ok (.iload_n 3, 1) := by decide +kernel
theorem dX10_sheet_80 : decode cX10_sheet 80 = .ok (.if_icmp .ge 26, 3) := by decide +kernel
theorem dX10_sheet_83 : decode cX10_sheet 83 = .ok (.iload_n 2, 1) := by decide +kernel
theorem dX10_sheet_84 : decode cX10_sheet 84 = .ok (.ifCond .lt 22, 3) := by decide +kernel
theorem dX10_sheet_87 : decode cX10_sheet 87 = .ok (.aload_n 0, 1) := by decide +kernel
theorem dX10_sheet_88 : decode cX10_sheet 88 = .ok (.getfield 114, 3) := by decide +kernel
theorem dX10_sheet_91 : decode cX10_sheet 91 = .ok (.bipush 40, 2) := by decide +kernel
theorem dX10_sheet_93 : decode cX10_sheet 93 = .ok (.iload_n 1, 1) := by decide +kernel
theorem dX10_sheet_94 : decode cX10_sheet 94 = .ok (.imul, 1) := by decide +kernel
theorem dX10_sheet_95 : decode cX10_sheet 95 = .ok (.iload 4, 2) := by decide +kernel
theorem dX10_sheet_97 : decode cX10_sheet 97 = .ok (.iadd, 1) := by decide +kernel
theorem dX10_sheet_98 : decode cX10_sheet 98 = .ok (.iconst 0, 1) := by decide +kernel
theorem dX10_sheet_99 : decode cX10_sheet 99 = .ok (.iastore, 1) := by decide +kernel
theorem dX10_sheet_100 : decode cX10_sheet 100 = .ok (.iinc 4 1, 3) := by decide +kernel
theorem dX10_sheet_103 : decode cX10_sheet 103 = .ok (.goto (-26), 3) := by decide +kernel
theorem dX10_sheet_106 : decode cX10_sheet 106 = .ok (.iconst 1, 1) := by decide +kernel
theorem dX10_sheet_107 : decode cX10_sheet 107 = .ok (.ireturn, 1) := by decide +kernel
theorem dX10_cell_0 : decode cX10_cell 0 = .ok (.iload_n 1, 1) := by decide +kernel
theorem dX10_cell_1 : decode cX10_cell 1 = .ok (.invokestatic 440, 3) := by decide +kernel
theorem dX10_cell_4 : decode cX10_cell 4 = .ok (.ifCond .ne 6, 3) := by decide +kernel
theorem dX10_cell_7 : decode cX10_cell 7 = .ok (.bipush (-2), 2) := by decide +kernel
theorem dX10_cell_9 : decode cX10_cell 9 = .ok (.ireturn, 1) := by decide +kernel
theorem dX10_cell_10 : decode cX10_cell 10 = .ok (.aload_n 0, 1) := by decide +kernel
theorem dX10_cell_11 : decode cX10_cell 11 = .ok (.getfield 104, 3) := by decide +kernel
theorem dX10_cell_14 : decode cX10_cell 14 = .ok (.iload_n 1, 1) := by decide +kernel
theorem dX10_cell_15 : decode cX10_cell 15 = .ok (.baload, 1) := by decide +kernel
theorem dX10_cell_16 : decode cX10_cell 16 = .ok (.ifCond .ne 6, 3) := by decide +kernel
theorem dX10_cell_19 : decode cX10_cell 19 = .ok (.bipush (-11), 2) := by decide +kernel
theorem dX10_cell_21 : decode cX10_cell 21 = .ok (.ireturn, 1) := by decide +kernel
theorem dX10_cell_22 : decode cX10_cell 22 = .ok (.iload_n 2, 1) := by decide +kernel
theorem dX10_cell_23 : decode cX10_cell 23 = .ok (.i2l, 1) := by decide +kernel
theorem dX10_cell_24 : decode cX10_cell 24 = .ok (.lconst 0, 1) := by decide +kernel
theorem dX10_cell_25 : decode cX10_cell 25 = .ok (.aload_n 0, 1) := by decide +kernel
theorem dX10_cell_26 : decode cX10_cell 26 = .ok (.getfield 111, 3) := by decide +kernel
theorem dX10_cell_29 : decode cX10_cell 29 = .ok (.iload_n 1, 1) := by decide +kernel
theorem dX10_cell_30 : decode cX10_cell 30 = .ok (.iaload, 1) := by decide +kernel
theorem dX10_cell_31 : decode cX10_cell 31 = .ok (.iconst 1, 1) := by decide +kernel
theorem dX10_cell_32 : decode cX10_cell 32 = .ok (.isub, 1) := by decide +kernel
theorem dX10_cell_33 : decode cX10_cell 33 = .ok (.i2l, 1) := by decide +kernel
theorem dX10_cell_34 : decode cX10_cell 34 = .ok (.invokestatic 149, 3) := by decide +kernel
theorem dX10_cell_37 : decode cX10_cell 37 = .ok (.ifCond .ne 6, 3) := by decide +kernel
theorem dX10_cell_40 : decode cX10_cell 40 = .ok (.bipush (-12), 2) := by decide +kernel
theorem dX10_cell_42 : decode cX10_cell 42 = .ok (.ireturn, 1) := by decide +kernel
theorem dX10_cell_43 : decode cX10_cell 43 = .ok (.aload_n 0, 1) := by decide +kernel
theorem dX10_cell_44 : decode cX10_cell 44 = .ok (.getfield 114, 3) := by decide +kernel
theorem dX10_cell_47 : decode cX10_cell 47 = .ok (.bipush 40, 2) := by decide +kernel
theorem dX10_cell_49 : decode cX10_cell 49 = .ok (.iload_n 1, 1) := by decide +kernel
theorem dX10_cell_50 : decode cX10_cell 50 = .ok (.imul, 1) := by decide +kernel
theorem dX10_cell_51 : decode cX10_cell 51 = .ok (.iload_n 2, 1) := by decide +kernel
theorem dX10_cell_52 : decode cX10_cell 52 = .ok (.iadd, 1) := by decide +kernel
theorem dX10_cell_53 : decode cX10_cell 53 = .ok (.aload_n 0, 1) := by decide +kernel
theorem dX10_cell_54 : decode cX10_cell 54 = .ok (.getfield 108, 3) := by decide +kernel
theorem dX10_cell_57 : decode cX10_cell 57 = .ok (.iload_n 1, 1) := by decide +kernel
theorem dX10_cell_58 : decode cX10_cell 58 = .ok (.iaload, 1) := by decide +kernel
theorem dX10_cell_59 : decode cX10_cell 59 = .ok (.ifCond .ne 8, 3) := by decide +kernel
theorem dX10_cell_62 : decode cX10_cell 62 = .ok (.iload_n 3, 1) := by decide +kernel
theorem dX10_cell_63 : decode cX10_cell 63 = .ok (.i2b, 1) := by decide +kernel
theorem dX10_cell_64 : decode cX10_cell 64 = .ok (.goto 19, 3) := by decide +kernel
theorem dX10_cell_67 : decode cX10_cell 67 = .ok (.aload_n 0, 1) := by decide +kernel
theorem dX10_cell_68 : decode cX10_cell 68 = .ok (.getfield 108, 3) := by decide +kernel
theorem dX10_cell_71 : decode cX10_cell 71 = .ok (.iload_n 1, 1) := by decide +kernel
theorem dX10_cell_72 : decode cX10_cell 72 = .ok (.iaload, 1) := by decide +kernel
theorem dX10_cell_73 : decode cX10_cell 73 = .ok (.iconst 1, 1) := by decide +kernel
theorem dX10_cell_74 : decode cX10_cell 74 = .ok (.if_icmp .ne 8, 3) := by decide +kernel
theorem dX10_cell_77 : decode cX10_cell 77 = .ok (.iload_n 3, 1) := by decide +kernel
theorem dX10_cell_78 : decode cX10_cell 78 = .ok (.i2s, 1) := by decide +kernel
theorem dX10_cell_79 : decode cX10_cell 79 = .ok (.goto 4, 3) := by decide +kernel
theorem dX10_cell_82 : decode cX10_cell 82 = .ok (.iload_n 3, 1) := by decide +kernel
theorem dX10_cell_83 : decode cX10_cell 83 = .ok (.iastore, 1) := by decide +kernel
theorem dX10_cell_84 : decode cX10_cell 84 = .ok (.iconst 1, 1) := by decide +kernel
theorem dX10_cell_85 : decode cX10_cell 85 = .ok (.ireturn, 1) := by decide +kernel
theorem dX10_copy_0 : decode cX10_copy 0 = .ok (.iload_n 1, 1) := by decide +kernel
theorem dX10_copy_1 : decode cX10_copy 1 = .ok (.invokestatic 440, 3) := by decide +kernel
theorem dX10_copy_4 : decode cX10_copy 4 = .ok (.ifCond .eq 10, 3) := by decide +kernel
theorem dX10_copy_7 : decode cX10_copy 7 = .ok (.iload_n 3, 1) := by decide +kernel
theorem dX10_copy_8 : decode cX10_copy 8 = .ok (.invokestatic 440, 3) := by decide +kernel
theorem dX10_copy_11 : decode cX10_copy 11 = .ok (.ifCond .ne 6, 3) := by decide +kernel
theorem dX10_copy_14 : decode cX10_copy 14 = .ok (.bipush (-2), 2) := by decide +kernel
theorem dX10_copy_16 : decode cX10_copy 16 = .ok (.ireturn, 1) := by decide +kernel
theorem dX10_copy_17 : decode cX10_copy 17 = .ok (.aload_n 0, 1) := by decide +kernel
theorem dX10_copy_18 : decode cX10_copy 18 = .ok (.getfield 104, 3) := by decide +kernel
theorem dX10_copy_21 : decode cX10_copy 21 = .ok (.iload_n 1, 1) := by decide +kernel
theorem dX10_copy_22 : decode cX10_copy 22 = .ok (.baload, 1) := by decide +kernel
theorem dX10_copy_23 : decode cX10_copy 23 = .ok (.ifCond .eq 12, 3) := by decide +kernel
theorem dX10_copy_26 : decode cX10_copy 26 = .ok (.aload_n 0, 1) := by decide +kernel
theorem dX10_copy_27 : decode cX10_copy 27 = .ok (.getfield 104, 3) := by decide +kernel
theorem dX10_copy_30 : decode cX10_copy 30 = .ok (.iload_n 3, 1) := by decide +kernel
theorem dX10_copy_31 : decode cX10_copy 31 = .ok (.baload, 1) := by decide +kernel
theorem dX10_copy_32 : decode cX10_copy 32 = .ok (.ifCond .ne 6, 3) := by decide +kernel
theorem dX10_copy_35 : decode cX10_copy 35 = .ok (.bipush (-11), 2) := by decide +kernel
theorem dX10_copy_37 : decode cX10_copy 37 = .ok (.ireturn, 1) := by decide +kernel
theorem dX10_copy_38 : decode cX10_copy 38 = .ok (.aload_n 0, 1) := by decide +kernel
theorem dX10_copy_39 : decode cX10_copy 39 = .ok (.getfield 108, 3) := by decide +kernel
theorem dX10_copy_42 : decode cX10_copy 42 = .ok (.iload_n 1, 1) := by decide +kernel
theorem dX10_copy_43 : decode cX10_copy 43 = .ok (.iaload, 1) := by decide +kernel
theorem dX10_copy_44 : decode cX10_copy 44 = .ok (.aload_n 0, 1) := by decide +kernel
theorem dX10_copy_45 : decode cX10_copy 45 = .ok (.getfield 108, 3) := by decide +kernel
theorem dX10_copy_48 : decode cX10_copy 48 = .ok (.iload_n 3, 1) := by decide +kernel
theorem dX10_copy_49 : decode cX10_copy 49 = .ok (.iaload, 1) := by decide +kernel
theorem dX10_copy_50 : decode cX10_copy 50 = .ok (.if_icmp .eq 6, 3) := by decide +kernel
theorem dX10_copy_53 : decode cX10_copy 53 = .ok (.bipush (-13), 2) := by decide +kernel
theorem dX10_copy_55 : decode cX10_copy 55 = .ok (.ireturn, 1) := by decide +kernel
theorem dX10_copy_56 : decode cX10_copy 56 = .ok (.iload 5, 2) := by decide +kernel
theorem dX10_copy_58 : decode cX10_copy 58 = .ok (.ifCond .lt 39, 3) := by decide +kernel
theorem dX10_copy_61 : decode cX10_copy 61 = .ok (.iload_n 2, 1) := by decide +kernel
theorem dX10_copy_62 : decode cX10_copy 62 = .ok (.ifCond .lt 35, 3) := by decide +kernel
theorem dX10_copy_65 : decode cX10_copy 65 = .ok (.iload 4, 2) := by decide +kernel
theorem dX10_copy_67 : decode cX10_copy 67 = .ok (.ifCond .lt 30, 3) := by decide +kernel
theorem dX10_copy_70 : decode cX10_copy 70 = .ok (.iload_n 2, 1) := by decide +kernel
theorem dX10_copy_71 : decode cX10_copy 71 = .ok (.aload_n 0, 1) := by decide +kernel
theorem dX10_copy_72 : decode cX10_copy 72 = .ok (.getfield 111, 3) := by decide +kernel
theorem dX10_copy_75 : decode cX10_copy 75 = .ok (.iload_n 1, 1) := by decide +kernel
theorem dX10_copy_76 : decode cX10_copy 76 = .ok (.iaload, 1) := by decide +kernel
theorem dX10_copy_77 : decode cX10_copy 77 = .ok (.iload 5, 2) := by decide +kernel
theorem dX10_copy_79 : decode cX10_copy 79 = .ok (.isub, 1) := by decide +kernel
theorem dX10_copy_80 : decode cX10_copy 80 = .ok (.if_icmp .gt 17, 3) := by decide +kernel
theorem dX10_copy_83 : decode cX10_copy 83 = .ok (.iload 4, 2) := by decide +kernel
theorem dX10_copy_85 : decode cX10_copy 85 = .ok (.aload_n 0, 1) := by decide +kernel
theorem dX10_copy_86 : decode cX10_copy 86 = .ok (.getfield 111, 3) := by decide +kernel
theorem dX10_copy_89 : decode cX10_copy 89 = .ok (.iload_n 3, 1) := by decide +kernel
theorem dX10_copy_90 : decode cX10_copy 90 = .ok (.iaload, 1) := by decide +kernel
theorem dX10_copy_91 : decode cX10_copy 91 = .ok (.iload 5, 2) := by decide +kernel
theorem dX10_copy_93 : decode cX10_copy 93 = .ok (.isub, 1) := by decide +kernel
theorem dX10_copy_94 : decode cX10_copy 94 = .ok (.if_icmp .le 6, 3) := by decide +kernel
theorem dX10_copy_97 : decode cX10_copy 97 = .ok (.bipush (-12), 2) := by decide +kernel
theorem dX10_copy_99 : decode cX10_copy 99 = .ok (.ireturn, 1) := by decide +kernel
theorem dX10_copy_100 : decode cX10_copy 100 = .ok (.iload_n 1, 1) := by decide +kernel
theorem dX10_copy_101 : decode cX10_copy 101 = .ok (.iload_n 3, 1) := by decide +kernel
theorem dX10_copy_102 : decode cX10_copy 102 = .ok (.if_icmp .ne 13, 3) := by decide +kernel
theorem dX10_copy_105 : decode cX10_copy 105 = .ok (.iload_n 2, 1) := by decide +kernel
theorem dX10_copy_106 : decode cX10_copy 106 = .ok (.iload 4, 2) := by decide +kernel
theorem dX10_copy_108 : decode cX10_copy 108 = .ok (.if_icmp .ge 7, 3) := by decide +kernel
theorem dX10_copy_111 : decode cX10_copy 111 = .ok (.iconst 1, 1) := by decide +kernel
theorem dX10_copy_112 : decode cX10_copy 112 = .ok (.goto 4, 3) := by decide +kernel
theorem dX10_copy_115 : decode cX10_copy 115 = .ok (.iconst 0, 1) := by decide +kernel
theorem dX10_copy_116 : decode cX10_copy 116 = .ok (.istore 6, 2) := by decide +kernel
theorem dX10_copy_118 : decode cX10_copy 118 = .ok (.iconst 0, 1) := by decide +kernel
theorem dX10_copy_119 : decode cX10_copy 119 = .ok (.istore 7, 2) := by decide +kernel
theorem dX10_copy_121 : decode cX10_copy 121 = .ok (.iload 7, 2) := by decide +kernel
theorem dX10_copy_123 : decode cX10_copy 123 = .ok (.iload 5, 2) := by decide +kernel
theorem dX10_copy_125 : decode cX10_copy 125 = .ok (.if_icmp .ge 57, 3) := by decide +kernel
theorem dX10_copy_128 : decode cX10_copy 128 = .ok (.iload 6, 2) := by decide +kernel
theorem dX10_copy_130 : decode cX10_copy 130 = .ok (.ifCond .eq 13, 3) := by decide +kernel
theorem dX10_copy_133 : decode cX10_copy 133 = .ok (.iload 5, 2) := by decide +kernel
theorem dX10_copy_135 : decode cX10_copy 135 = .ok (.iconst 1, 1) := by decide +kernel
theorem dX10_copy_136 : decode cX10_copy 136 = .ok (.isub, 1) := by decide +kernel
theorem dX10_copy_137 : decode cX10_copy 137 = .ok (.iload 7, 2) := by decide +kernel
theorem dX10_copy_139 : decode cX10_copy 139 = .ok (.isub, 1) := by decide +kernel
theorem dX10_copy_140 : decode cX10_copy 140 = .ok (.goto 5, 3) := by decide +kernel
theorem dX10_copy_143 : decode cX10_copy 143 = .ok (.iload 7, 2) := by decide +kernel
theorem dX10_copy_145 : decode cX10_copy 145 = .ok (.istore 8, 2) := by decide +kernel
theorem dX10_copy_147 : decode cX10_copy 147 = .ok (.aload_n 0, 1) := by decide +kernel
theorem dX10_copy_148 : decode cX10_copy 148 = .ok (.getfield 114, 3) := by decide +kernel
theorem dX10_copy_151 : decode cX10_copy 151 = .ok (.bipush 40, 2) := by decide +kernel
theorem dX10_copy_153 : decode cX10_copy 153 = .ok (.iload_n 3, 1) := by decide +kernel
theorem dX10_copy_154 : decode cX10_copy 154 = .ok (.imul, 1) := by decide +kernel
theorem dX10_copy_155 : decode cX10_copy 155 = .ok (.iload 4, 2) := by decide +kernel
theorem dX10_copy_157 : decode cX10_copy 157 = .ok (.iadd, 1) := by decide +kernel
theorem dX10_copy_158 : decode cX10_copy 158 = .ok (.iload 8, 2) := by decide +kernel
theorem dX10_copy_160 : decode cX10_copy 160 = .ok (.iadd, 1) := by decide +kernel
theorem dX10_copy_161 : decode cX10_copy 161 = .ok (.aload_n 0, 1) := by decide +kernel
theorem dX10_copy_162 : decode cX10_copy 162 = .ok (.getfield 114, 3) := by decide +kernel
theorem dX10_copy_165 : decode cX10_copy 165 = .ok (.bipush 40, 2) := by decide +kernel
theorem dX10_copy_167 : decode cX10_copy 167 = .ok (.iload_n 1, 1) := by decide +kernel
theorem dX10_copy_168 : decode cX10_copy 168 = .ok (.imul, 1) := by decide +kernel
theorem dX10_copy_169 : decode cX10_copy 169 = .ok (.iload_n 2, 1) := by decide +kernel
theorem dX10_copy_170 : decode cX10_copy 170 = .ok (.iadd, 1) := by decide +kernel
theorem dX10_copy_171 : decode cX10_copy 171 = .ok (.iload 8, 2) := by decide +kernel
theorem dX10_copy_173 : decode cX10_copy 173 = .ok (.iadd, 1) := by decide +kernel
theorem dX10_copy_174 : decode cX10_copy 174 = .ok (.iaload, 1) := by decide +kernel
theorem dX10_copy_175 : decode cX10_copy 175 = .ok (.iastore, 1) := by decide +kernel
theorem dX10_copy_176 : decode cX10_copy 176 = .ok (.iinc 7 1, 3) := by decide +kernel
theorem dX10_copy_179 : decode cX10_copy 179 = .ok (.goto (-58), 3) := by decide +kernel
theorem dX10_copy_182 : decode cX10_copy 182 = .ok (.iload 5, 2) := by decide +kernel
theorem dX10_copy_184 : decode cX10_copy 184 = .ok (.ireturn, 1) := by decide +kernel
theorem dX10_sales_0 : decode cX10_sales 0 = .ok (.iload_n 1, 1) := by decide +kernel
theorem dX10_sales_1 : decode cX10_sales 1 = .ok (.invokestatic 440, 3) := by decide +kernel
theorem dX10_sales_4 : decode cX10_sales 4 = .ok (.ifCond .eq 28, 3) := by decide +kernel
theorem dX10_sales_7 : decode cX10_sales 7 = .ok (.iload_n 2, 1) := by decide +kernel
theorem dX10_sales_8 : decode cX10_sales 8 = .ok (.i2l, 1) := by decide +kernel
theorem dX10_sales_9 : decode cX10_sales 9 = .ok (.lconst 0, 1) := by decide +kernel
theorem dX10_sales_10 : decode cX10_sales 10 = .ok (.ldc2_w 168, 3) := by decide +kernel
theorem dX10_sales_13 : decode cX10_sales 13 = .ok (.invokestatic 149, 3) := by decide +kernel
theorem dX10_sales_16 : decode cX10_sales 16 = .ok (.ifCond .eq 16, 3) := by decide +kernel
theorem dX10_sales_19 : decode cX10_sales 19 = .ok (.iload 4, 2) := by decide +kernel
theorem dX10_sales_21 : decode cX10_sales 21 = .ok (.i2l, 1) := by decide +kernel
theorem dX10_sales_22 : decode cX10_sales 22 = .ok (.lconst 0, 1) := by decide +kernel
theorem dX10_sales_23 : decode cX10_sales 23 = .ok (.ldc2_w 279, 3) := by decide +kernel
theorem dX10_sales_26 : decode cX10_sales 26 = .ok (.invokestatic 149, 3) := by decide +kernel
theorem dX10_sales_29 : decode cX10_sales 29 = .ok (.ifCond .ne 6, 3) := by decide +kernel
theorem dX10_sales_32 : decode cX10_sales 32 = .ok (.bipush (-2), 2) := by decide +kernel
theorem dX10_sales_34 : decode cX10_sales 34 = .ok (.ireturn, 1) := by decide +kernel
theorem dX10_sales_35 : decode cX10_sales 35 = .ok (.aload_n 0, 1) := by decide +kernel
theorem dX10_sales_36 : decode cX10_sales 36 = .ok (.getfield 104, 3) := by decide +kernel
theorem dX10_sales_39 : decode cX10_sales 39 = .ok (.iload_n 1, 1) := by decide +kernel
theorem dX10_sales_40 : decode cX10_sales 40 = .ok (.baload, 1) := by decide +kernel
theorem dX10_sales_41 : decode cX10_sales 41 = .ok (.ifCond .eq 16, 3) := by decide +kernel
theorem dX10_sales_44 : decode cX10_sales 44 = .ok (.aload_n 0, 1) := by decide +kernel
theorem dX10_sales_45 : decode cX10_sales 45 = .ok (.getfield 108, 3) := by decide +kernel
theorem dX10_sales_48 : decode cX10_sales 48 = .ok (.iload_n 1, 1) := by decide +kernel
theorem dX10_sales_49 : decode cX10_sales 49 = .ok (.iaload, 1) := by decide +kernel
theorem dX10_sales_50 : decode cX10_sales 50 = .ok (.iload_n 2, 1) := by decide +kernel
theorem dX10_sales_51 : decode cX10_sales 51 = .ok (.if_icmp .eq 6, 3) := by decide +kernel
theorem dX10_sales_54 : decode cX10_sales 54 = .ok (.bipush (-13), 2) := by decide +kernel
theorem dX10_sales_56 : decode cX10_sales 56 = .ok (.ireturn, 1) := by decide +kernel
theorem dX10_sales_57 : decode cX10_sales 57 = .ok (.aload_n 0, 1) := by decide +kernel
theorem dX10_sales_58 : decode cX10_sales 58 = .ok (.getfield 104, 3) := by decide +kernel
theorem dX10_sales_61 : decode cX10_sales 61 = .ok (.iload_n 1, 1) := by decide +kernel
theorem dX10_sales_62 : decode cX10_sales 62 = .ok (.baload, 1) := by decide +kernel
theorem dX10_sales_63 : decode cX10_sales 63 = .ok (.ifCond .ne 6, 3) := by decide +kernel
theorem dX10_sales_66 : decode cX10_sales 66 = .ok (.bipush (-11), 2) := by decide +kernel
theorem dX10_sales_68 : decode cX10_sales 68 = .ok (.ireturn, 1) := by decide +kernel
theorem dX10_sales_69 : decode cX10_sales 69 = .ok (.iconst 0, 1) := by decide +kernel
theorem dX10_sales_70 : decode cX10_sales 70 = .ok (.istore 5, 2) := by decide +kernel
theorem dX10_sales_72 : decode cX10_sales 72 = .ok (.iconst 0, 1) := by decide +kernel
theorem dX10_sales_73 : decode cX10_sales 73 = .ok (.istore 6, 2) := by decide +kernel
theorem dX10_sales_75 : decode cX10_sales 75 = .ok (.iload 6, 2) := by decide +kernel
theorem dX10_sales_77 : decode cX10_sales 77 = .ok (.iload 4, 2) := by decide +kernel
theorem dX10_sales_79 : decode cX10_sales 79 = .ok (.if_icmp .ge 97, 3) := by decide +kernel
theorem dX10_sales_82 : decode cX10_sales 82 = .ok (.iload_n 3, 1) := by decide +kernel
theorem dX10_sales_83 : decode cX10_sales 83 = .ok (.ifCond .lt 20, 3) := by decide +kernel
theorem dX10_sales_86 : decode cX10_sales 86 = .ok (.iload_n 3, 1) := by decide +kernel
theorem dX10_sales_87 : decode cX10_sales 87 = .ok (.aload_n 0, 1) := by decide +kernel
theorem dX10_sales_88 : decode cX10_sales 88 = .ok (.getfield 111, 3) := by decide +kernel
theorem dX10_sales_91 : decode cX10_sales 91 = .ok (.iload_n 1, 1) := by decide +kernel
theorem dX10_sales_92 : decode cX10_sales 92 = .ok (.iaload, 1) := by decide +kernel
theorem dX10_sales_93 : decode cX10_sales 93 = .ok (.iconst 4, 1) := by decide +kernel
theorem dX10_sales_94 : decode cX10_sales 94 = .ok (.iload 6, 2) := by decide +kernel
theorem dX10_sales_96 : decode cX10_sales 96 = .ok (.imul, 1) := by decide +kernel
theorem dX10_sales_97 : decode cX10_sales 97 = .ok (.isub, 1) := by decide +kernel
theorem dX10_sales_98 : decode cX10_sales 98 = .ok (.iconst 4, 1) := by decide +kernel
theorem dX10_sales_99 : decode cX10_sales 99 = .ok (.isub, 1) := by decide +kernel
theorem dX10_sales_100 : decode cX10_sales 100 = .ok (.if_icmp .le 6, 3) := by decide +kernel
theorem dX10_sales_103 : decode cX10_sales 103 = .ok (.bipush (-12), 2) := by decide +kernel
theorem dX10_sales_105 : decode cX10_sales 105 = .ok (.ireturn, 1) := by decide +kernel
theorem dX10_sales_106 : decode cX10_sales 106 = .ok (.bipush 40, 2) := by decide +kernel
theorem dX10_sales_108 : decode cX10_sales 108 = .ok (.iload_n 1, 1) := by decide +kernel
theorem dX10_sales_109 : decode cX10_sales 109 = .ok (.imul, 1) := by decide +kernel
theorem dX10_sales_110 : decode cX10_sales 110 = .ok (.iload_n 3, 1) := by decide +kernel
theorem dX10_sales_111 : decode cX10_sales 111 = .ok (.iadd, 1) := by decide +kernel
theorem dX10_sales_112 : decode cX10_sales 112 = .ok (.iconst 4, 1) := by decide +kernel
theorem dX10_sales_113 : decode cX10_sales 113 = .ok (.iload 6, 2) := by decide +kernel
theorem dX10_sales_115 : decode cX10_sales 115 = .ok (.imul, 1) := by decide +kernel
theorem dX10_sales_116 : decode cX10_sales 116 = .ok (.iadd, 1) := by decide +kernel
theorem dX10_sales_117 : decode cX10_sales 117 = .ok (.istore 7, 2) := by decide +kernel
theorem dX10_sales_119 : decode cX10_sales 119 = .ok (.iload 5, 2) := by decide +kernel
theorem dX10_sales_121 : decode cX10_sales 121 = .ok (.aload_n 0, 1) := by decide +kernel
theorem dX10_sales_122 : decode cX10_sales 122 = .ok (.aload_n 0, 1) := by decide +kernel
theorem dX10_sales_123 : decode cX10_sales 123 = .ok (.getfield 114, 3) := by decide +kernel
theorem dX10_sales_126 : decode cX10_sales 126 = .ok (.iload 7, 2) := by decide +kernel
theorem dX10_sales_128 : decode cX10_sales 128 = .ok (.iaload, 1) := by decide +kernel
theorem dX10_sales_129 : decode cX10_sales 129 = .ok (.aload_n 0, 1) := by decide +kernel
theorem dX10_sales_130 : decode cX10_sales 130 = .ok (.getfield 114, 3) := by decide +kernel
theorem dX10_sales_133 : decode cX10_sales 133 = .ok (.iload 7, 2) := by decide +kernel
theorem dX10_sales_135 : decode cX10_sales 135 = .ok (.iconst 1, 1) := by decide +kernel
theorem dX10_sales_136 : decode cX10_sales 136 = .ok (.iadd, 1) := by decide +kernel
theorem dX10_sales_137 : decode cX10_sales 137 = .ok (.iaload, 1) := by decide +kernel
theorem dX10_sales_138 : decode cX10_sales 138 = .ok (.aload_n 0, 1) := by decide +kernel
theorem dX10_sales_139 : decode cX10_sales 139 = .ok (.getfield 114, 3) := by decide +kernel
theorem dX10_sales_142 : decode cX10_sales 142 = .ok (.iload 7, 2) := by decide +kernel
theorem dX10_sales_144 : decode cX10_sales 144 = .ok (.iconst 2, 1) := by decide +kernel
theorem dX10_sales_145 : decode cX10_sales 145 = .ok (.iadd, 1) := by decide +kernel
theorem dX10_sales_146 : decode cX10_sales 146 = .ok (.iaload, 1) := by decide +kernel
theorem dX10_sales_147 : decode cX10_sales 147 = .ok (.aload_n 0, 1) := by decide +kernel
theorem dX10_sales_148 : decode cX10_sales 148 = .ok (.getfield 114, 3) := by decide +kernel
theorem dX10_sales_151 : decode cX10_sales 151 = .ok (.iload 7, 2) := by decide +kernel
theorem dX10_sales_153 : decode cX10_sales 153 = .ok (.iconst 3, 1) := by decide +kernel
theorem dX10_sales_154 : decode cX10_sales 154 = .ok (.iadd, 1) := by decide +kernel
theorem dX10_sales_155 : decode cX10_sales 155 = .ok (.iaload, 1) := by decide +kernel
theorem dX10_sales_156 : decode cX10_sales 156 = .ok (.invokevirtual 443, 3) := by decide +kernel
theorem dX10_sales_159 : decode cX10_sales 159 = .ok (.ifCond .lt 7, 3) := by decide +kernel
theorem dX10_sales_162 : decode cX10_sales 162 = .ok (.iconst 1, 1) := by decide +kernel
theorem dX10_sales_163 : decode cX10_sales 163 = .ok (.goto 4, 3) := by decide +kernel
theorem dX10_sales_166 : decode cX10_sales 166 = .ok (.iconst 0, 1) := by decide +kernel
theorem dX10_sales_167 : decode cX10_sales 167 = .ok (.iadd, 1) := by decide +kernel
theorem dX10_sales_168 : decode cX10_sales 168 = .ok (.istore 5, 2) := by decide +kernel
theorem dX10_sales_170 : decode cX10_sales 170 = .ok (.iinc 6 1, 3) := by decide +kernel
theorem dX10_sales_173 : decode cX10_sales 173 = .ok (.goto (-98), 3) := by decide +kernel
theorem dX10_sales_176 : decode cX10_sales 176 = .ok (.iload 5, 2) := by decide +kernel
theorem dX10_sales_178 : decode cX10_sales 178 = .ok (.ireturn, 1) := by decide +kernel
theorem dX10_over_0 : decode cX10_over 0 = .ok (.iload_n 0, 1) := by decide +kernel
theorem dX10_over_1 : decode cX10_over 1 = .ok (.ifCond .ne 7, 3) := by decide +kernel
theorem dX10_over_4 : decode cX10_over 4 = .ok (.iconst (-1), 1) := by decide +kernel
theorem dX10_over_5 : decode cX10_over 5 = .ok (.goto 22, 3) := by decide +kernel
theorem dX10_over_8 : decode cX10_over 8 = .ok (.iload_n 0, 1) := by decide +kernel
theorem dX10_over_9 : decode cX10_over 9 = .ok (.iconst 3, 1) := by decide +kernel
theorem dX10_over_10 : decode cX10_over 10 = .ok (.if_icmp .ne 7, 3) := by decide +kernel
theorem dX10_over_13 : decode cX10_over 13 = .ok (.iconst 1, 1) := by decide +kernel
theorem dX10_over_14 : decode cX10_over 14 = .ok (.goto 13, 3) := by decide +kernel
theorem dX10_over_17 : decode cX10_over 17 = .ok (.iload_n 0, 1) := by decide +kernel
theorem dX10_over_18 : decode cX10_over 18 = .ok (.iconst 4, 1) := by decide +kernel
theorem dX10_over_19 : decode cX10_over 19 = .ok (.if_icmp .ne 7, 3) := by decide +kernel
theorem dX10_over_22 : decode cX10_over 22 = .ok (.iconst 2, 1) := by decide +kernel
theorem dX10_over_23 : decode cX10_over 23 = .ok (.goto 4, 3) := by decide +kernel
theorem dX10_over_26 : decode cX10_over 26 = .ok (.iconst 0, 1) := by decide +kernel
theorem dX10_over_27 : decode cX10_over 27 = .ok (.ireturn, 1) := by decide +kernel
theorem dX10_taken_0 : decode cX10_taken 0 = .ok (.iload_n 2, 1) := by decide +kernel
theorem dX10_taken_1 : decode cX10_taken 1 = .ok (.i2l, 1) := by decide +kernel
theorem dX10_taken_2 : decode cX10_taken 2 = .ok (.lconst 0, 1) := by decide +kernel
theorem dX10_taken_3 : decode cX10_taken 3 = .ok (.ldc2_w 177, 3) := by decide +kernel
theorem dX10_taken_6 : decode cX10_taken 6 = .ok (.invokestatic 149, 3) := by decide +kernel
theorem dX10_taken_9 : decode cX10_taken 9 = .ok (.ifCond .ne 6, 3) := by decide +kernel
theorem dX10_taken_12 : decode cX10_taken 12 = .ok (.bipush (-2), 2) := by decide +kernel
theorem dX10_taken_14 : decode cX10_taken 14 = .ok (.ireturn, 1) := by decide +kernel
theorem dX10_taken_15 : decode cX10_taken 15 = .ok (.aload_n 0, 1) := by decide +kernel
theorem dX10_taken_16 : decode cX10_taken 16 = .ok (.iload_n 1, 1) := by decide +kernel
theorem dX10_taken_17 : decode cX10_taken 17 = .ok (.invokevirtual 186, 3) := by decide +kernel
theorem dX10_taken_20 : decode cX10_taken 20 = .ok (.ifCond .ne 6, 3) := by decide +kernel
theorem dX10_taken_23 : decode cX10_taken 23 = .ok (.bipush (-11), 2) := by decide +kernel
theorem dX10_taken_25 : decode cX10_taken 25 = .ok (.ireturn, 1) := by decide +kernel
theorem dX10_taken_26 : decode cX10_taken 26 = .ok (.aload_n 0, 1) := by decide +kernel
theorem dX10_taken_27 : decode cX10_taken 27 = .ok (.getfield 47, 3) := by decide +kernel
theorem dX10_taken_30 : decode cX10_taken 30 = .ok (.iload_n 1, 1) := by decide +kernel
theorem dX10_taken_31 : decode cX10_taken 31 = .ok (.iaload, 1) := by decide +kernel
theorem dX10_taken_32 : decode cX10_taken 32 = .ok (.istore_n 3, 1) := by decide +kernel
theorem dX10_taken_33 : decode cX10_taken 33 = .ok (.iload_n 3, 1) := by decide +kernel
theorem dX10_taken_34 : decode cX10_taken 34 = .ok (.iconst (-1), 1) := by decide +kernel
theorem dX10_taken_35 : decode cX10_taken 35 = .ok (.if_icmp .eq 16, 3) := by decide +kernel
theorem dX10_taken_38 : decode cX10_taken 38 = .ok (.iload_n 3, 1) := by decide +kernel
theorem dX10_taken_39 : decode cX10_taken 39 = .ok (.iload_n 2, 1) := by decide +kernel
theorem dX10_taken_40 : decode cX10_taken 40 = .ok (.if_icmp .eq 11, 3) := by decide +kernel
theorem dX10_taken_43 : decode cX10_taken 43 = .ok (.iload_n 3, 1) := by decide +kernel
theorem dX10_taken_44 : decode cX10_taken 44 = .ok (.invokestatic 446, 3) := by decide +kernel
theorem dX10_taken_47 : decode cX10_taken 47 = .ok (.istore_n 3, 1) := by decide +kernel
theorem dX10_taken_48 : decode cX10_taken 48 = .ok (.goto (-15), 3) := by decide +kernel
theorem dX10_taken_51 : decode cX10_taken 51 = .ok (.iload_n 3, 1) := by decide +kernel
theorem dX10_taken_52 : decode cX10_taken 52 = .ok (.iload_n 2, 1) := by decide +kernel
theorem dX10_taken_53 : decode cX10_taken 53 = .ok (.if_icmp .ne 12, 3) := by decide +kernel
theorem dX10_taken_56 : decode cX10_taken 56 = .ok (.aload_n 0, 1) := by decide +kernel
theorem dX10_taken_57 : decode cX10_taken 57 = .ok (.getfield 53, 3) := by decide +kernel
theorem dX10_taken_60 : decode cX10_taken 60 = .ok (.iload_n 1, 1) := by decide +kernel
theorem dX10_taken_61 : decode cX10_taken 61 = .ok (.iaload, 1) := by decide +kernel
theorem dX10_taken_62 : decode cX10_taken 62 = .ok (.goto 5, 3) := by decide +kernel
theorem dX10_taken_65 : decode cX10_taken 65 = .ok (.bipush (-13), 2) := by decide +kernel
theorem dX10_taken_67 : decode cX10_taken 67 = .ok (.ireturn, 1) := by decide +kernel
theorem dJ11_isValidCodePoint_9a6ad_0 : decode cJ11_isValidCodePoint_9a6ad 0 = .ok (.iload_n 0, 1) := by decide +kernel
theorem dJ11_isValidCodePoint_9a6ad_1 : decode cJ11_isValidCodePoint_9a6ad 1 = .ok (.bipush 16, 2) := by decide +kernel
theorem dJ11_isValidCodePoint_9a6ad_3 : decode cJ11_isValidCodePoint_9a6ad 3 = .ok (.iushr, 1) := by decide +kernel
theorem dJ11_isValidCodePoint_9a6ad_4 : decode cJ11_isValidCodePoint_9a6ad 4 = .ok (.istore_n 1, 1) := by decide +kernel
theorem dJ11_isValidCodePoint_9a6ad_5 : decode cJ11_isValidCodePoint_9a6ad 5 = .ok (.iload_n 1, 1) := by decide +kernel
theorem dJ11_isValidCodePoint_9a6ad_6 : decode cJ11_isValidCodePoint_9a6ad 6 = .ok (.bipush 17, 2) := by decide +kernel
theorem dJ11_isValidCodePoint_9a6ad_8 : decode cJ11_isValidCodePoint_9a6ad 8 = .ok (.if_icmp .ge 7, 3) := by decide +kernel
theorem dJ11_isValidCodePoint_9a6ad_11 : decode cJ11_isValidCodePoint_9a6ad 11 = .ok (.iconst 1, 1) := by decide +kernel
theorem dJ11_isValidCodePoint_9a6ad_12 : decode cJ11_isValidCodePoint_9a6ad 12 = .ok (.goto 4, 3) := by decide +kernel
theorem dJ11_isValidCodePoint_9a6ad_15 : decode cJ11_isValidCodePoint_9a6ad 15 = .ok (.iconst 0, 1) := by decide +kernel
theorem dJ11_isValidCodePoint_9a6ad_16 : decode cJ11_isValidCodePoint_9a6ad 16 = .ok (.ireturn, 1) := by decide +kernel
theorem dJ11_highSurrogate_5068e_0 : decode cJ11_highSurrogate_5068e 0 = .ok (.iload_n 0, 1) := by decide +kernel
theorem dJ11_highSurrogate_5068e_1 : decode cJ11_highSurrogate_5068e 1 = .ok (.bipush 10, 2) := by decide +kernel
theorem dJ11_highSurrogate_5068e_3 : decode cJ11_highSurrogate_5068e 3 = .ok (.iushr, 1) := by decide +kernel
theorem dJ11_highSurrogate_5068e_4 : decode cJ11_highSurrogate_5068e 4 = .ok (.ldc 110, 2) := by decide +kernel
theorem dJ11_highSurrogate_5068e_6 : decode cJ11_highSurrogate_5068e 6 = .ok (.iadd, 1) := by decide +kernel
theorem dJ11_highSurrogate_5068e_7 : decode cJ11_highSurrogate_5068e 7 = .ok (.i2c, 1) := by decide +kernel
theorem dJ11_highSurrogate_5068e_8 : decode cJ11_highSurrogate_5068e 8 = .ok (.ireturn, 1) := by decide +kernel
theorem dJ11_lowSurrogate_5068e_0 : decode cJ11_lowSurrogate_5068e 0 = .ok (.iload_n 0, 1) := by decide +kernel
theorem dJ11_lowSurrogate_5068e_1 : decode cJ11_lowSurrogate_5068e 1 = .ok (.sipush 1023, 3) := by decide +kernel
theorem dJ11_lowSurrogate_5068e_4 : decode cJ11_lowSurrogate_5068e 4 = .ok (.iand, 1) := by decide +kernel
theorem dJ11_lowSurrogate_5068e_5 : decode cJ11_lowSurrogate_5068e 5 = .ok (.ldc 76, 2) := by decide +kernel
theorem dJ11_lowSurrogate_5068e_7 : decode cJ11_lowSurrogate_5068e 7 = .ok (.iadd, 1) := by decide +kernel
theorem dJ11_lowSurrogate_5068e_8 : decode cJ11_lowSurrogate_5068e 8 = .ok (.i2c, 1) := by decide +kernel
theorem dJ11_lowSurrogate_5068e_9 : decode cJ11_lowSurrogate_5068e 9 = .ok (.ireturn, 1) := by decide +kernel
theorem dJ6_bitCount_0f7a4_0 : decode cJ6_bitCount_0f7a4 0 = .ok (.iload_n 0, 1) := by decide +kernel
theorem dJ6_bitCount_0f7a4_1 : decode cJ6_bitCount_0f7a4 1 = .ok (.iload_n 0, 1) := by decide +kernel
theorem dJ6_bitCount_0f7a4_2 : decode cJ6_bitCount_0f7a4 2 = .ok (.iconst 1, 1) := by decide +kernel
theorem dJ6_bitCount_0f7a4_3 : decode cJ6_bitCount_0f7a4 3 = .ok (.iushr, 1) := by decide +kernel
theorem dJ6_bitCount_0f7a4_4 : decode cJ6_bitCount_0f7a4 4 = .ok (.ldc_w 265, 3) := by decide +kernel
theorem dJ6_bitCount_0f7a4_7 : decode cJ6_bitCount_0f7a4 7 = .ok (.iand, 1) := by decide +kernel
theorem dJ6_bitCount_0f7a4_8 : decode cJ6_bitCount_0f7a4 8 = .ok (.isub, 1) := by decide +kernel
theorem dJ6_bitCount_0f7a4_9 : decode cJ6_bitCount_0f7a4 9 = .ok (.istore_n 0, 1) := by decide +kernel
theorem dJ6_bitCount_0f7a4_10 : decode cJ6_bitCount_0f7a4 10 = .ok (.iload_n 0, 1) := by decide +kernel
theorem dJ6_bitCount_0f7a4_11 : decode cJ6_bitCount_0f7a4 11 = .ok (.ldc_w 266, 3) := by decide +kernel
theorem dJ6_bitCount_0f7a4_14 : decode cJ6_bitCount_0f7a4 14 = .ok (.iand, 1) := by decide +kernel
theorem dJ6_bitCount_0f7a4_15 : decode cJ6_bitCount_0f7a4 15 = .ok (.iload_n 0, 1) := by decide +kernel
theorem dJ6_bitCount_0f7a4_16 : decode cJ6_bitCount_0f7a4 16 = .ok (.iconst 2, 1) := by decide +kernel
theorem dJ6_bitCount_0f7a4_17 : decode cJ6_bitCount_0f7a4 17 = .ok (.iushr, 1) := by decide +kernel
theorem dJ6_bitCount_0f7a4_18 : decode cJ6_bitCount_0f7a4 18 = .ok (.ldc_w 266, 3) := by decide +kernel
theorem dJ6_bitCount_0f7a4_21 : decode cJ6_bitCount_0f7a4 21 = .ok (.iand, 1) := by decide +kernel
theorem dJ6_bitCount_0f7a4_22 : decode cJ6_bitCount_0f7a4 22 = .ok (.iadd, 1) := by decide +kernel
theorem dJ6_bitCount_0f7a4_23 : decode cJ6_bitCount_0f7a4 23 = .ok (.istore_n 0, 1) := by decide +kernel
theorem dJ6_bitCount_0f7a4_24 : decode cJ6_bitCount_0f7a4 24 = .ok (.iload_n 0, 1) := by decide +kernel
theorem dJ6_bitCount_0f7a4_25 : decode cJ6_bitCount_0f7a4 25 = .ok (.iload_n 0, 1) := by decide +kernel
theorem dJ6_bitCount_0f7a4_26 : decode cJ6_bitCount_0f7a4 26 = .ok (.iconst 4, 1) := by decide +kernel
theorem dJ6_bitCount_0f7a4_27 : decode cJ6_bitCount_0f7a4 27 = .ok (.iushr, 1) := by decide +kernel
theorem dJ6_bitCount_0f7a4_28 : decode cJ6_bitCount_0f7a4 28 = .ok (.iadd, 1) := by decide +kernel
theorem dJ6_bitCount_0f7a4_29 : decode cJ6_bitCount_0f7a4 29 = .ok (.ldc_w 267, 3) := by decide +kernel
theorem dJ6_bitCount_0f7a4_32 : decode cJ6_bitCount_0f7a4 32 = .ok (.iand, 1) := by decide +kernel
theorem dJ6_bitCount_0f7a4_33 : decode cJ6_bitCount_0f7a4 33 = .ok (.istore_n 0, 1) := by decide +kernel
theorem dJ6_bitCount_0f7a4_34 : decode cJ6_bitCount_0f7a4 34 = .ok (.iload_n 0, 1) := by decide +kernel
theorem dJ6_bitCount_0f7a4_35 : decode cJ6_bitCount_0f7a4 35 = .ok (.iload_n 0, 1) := by decide +kernel
theorem dJ6_bitCount_0f7a4_36 : decode cJ6_bitCount_0f7a4 36 = .ok (.bipush 8, 2) := by decide +kernel
theorem dJ6_bitCount_0f7a4_38 : decode cJ6_bitCount_0f7a4 38 = .ok (.iushr, 1) := by decide +kernel
theorem dJ6_bitCount_0f7a4_39 : decode cJ6_bitCount_0f7a4 39 = .ok (.iadd, 1) := by decide +kernel
theorem dJ6_bitCount_0f7a4_40 : decode cJ6_bitCount_0f7a4 40 = .ok (.istore_n 0, 1) := by decide +kernel
theorem dJ6_bitCount_0f7a4_41 : decode cJ6_bitCount_0f7a4 41 = .ok (.iload_n 0, 1) := by decide +kernel
theorem dJ6_bitCount_0f7a4_42 : decode cJ6_bitCount_0f7a4 42 = .ok (.iload_n 0, 1) := by decide +kernel
theorem dJ6_bitCount_0f7a4_43 : decode cJ6_bitCount_0f7a4 43 = .ok (.bipush 16, 2) := by decide +kernel
theorem dJ6_bitCount_0f7a4_45 : decode cJ6_bitCount_0f7a4 45 = .ok (.iushr, 1) := by decide +kernel
theorem dJ6_bitCount_0f7a4_46 : decode cJ6_bitCount_0f7a4 46 = .ok (.iadd, 1) := by decide +kernel
theorem dJ6_bitCount_0f7a4_47 : decode cJ6_bitCount_0f7a4 47 = .ok (.istore_n 0, 1) := by decide +kernel
theorem dJ6_bitCount_0f7a4_48 : decode cJ6_bitCount_0f7a4 48 = .ok (.iload_n 0, 1) := by decide +kernel
theorem dJ6_bitCount_0f7a4_49 : decode cJ6_bitCount_0f7a4 49 = .ok (.bipush 63, 2) := by decide +kernel
theorem dJ6_bitCount_0f7a4_51 : decode cJ6_bitCount_0f7a4 51 = .ok (.iand, 1) := by decide +kernel
theorem dJ6_bitCount_0f7a4_52 : decode cJ6_bitCount_0f7a4 52 = .ok (.ireturn, 1) := by decide +kernel
theorem dJ9_abs_0f7a4_0 : decode cJ9_abs_0f7a4 0 = .ok (.iload_n 0, 1) := by decide +kernel
theorem dJ9_abs_0f7a4_1 : decode cJ9_abs_0f7a4 1 = .ok (.ifCond .ge 8, 3) := by decide +kernel
theorem dJ9_abs_0f7a4_4 : decode cJ9_abs_0f7a4 4 = .ok (.iload_n 0, 1) := by decide +kernel
theorem dJ9_abs_0f7a4_5 : decode cJ9_abs_0f7a4 5 = .ok (.ineg, 1) := by decide +kernel
theorem dJ9_abs_0f7a4_6 : decode cJ9_abs_0f7a4 6 = .ok (.goto 4, 3) := by decide +kernel
theorem dJ9_abs_0f7a4_9 : decode cJ9_abs_0f7a4 9 = .ok (.iload_n 0, 1) := by decide +kernel
theorem dJ9_abs_0f7a4_10 : decode cJ9_abs_0f7a4 10 = .ok (.ireturn, 1) := by decide +kernel
theorem dJ9_max_7cf53_0 : decode cJ9_max_7cf53 0 = .ok (.iload_n 0, 1) := by decide +kernel
theorem dJ9_max_7cf53_1 : decode cJ9_max_7cf53 1 = .ok (.iload_n 1, 1) := by decide +kernel
theorem dJ9_max_7cf53_2 : decode cJ9_max_7cf53 2 = .ok (.if_icmp .lt 7, 3) := by decide +kernel
theorem dJ9_max_7cf53_5 : decode cJ9_max_7cf53 5 = .ok (.iload_n 0, 1) := by decide +kernel
theorem dJ9_max_7cf53_6 : decode cJ9_max_7cf53 6 = .ok (.goto 4, 3) := by decide +kernel
theorem dJ9_max_7cf53_9 : decode cJ9_max_7cf53 9 = .ok (.iload_n 1, 1) := by decide +kernel
theorem dJ9_max_7cf53_10 : decode cJ9_max_7cf53 10 = .ok (.ireturn, 1) := by decide +kernel
theorem dJ9_min_7cf53_0 : decode cJ9_min_7cf53 0 = .ok (.iload_n 0, 1) := by decide +kernel
theorem dJ9_min_7cf53_1 : decode cJ9_min_7cf53 1 = .ok (.iload_n 1, 1) := by decide +kernel
theorem dJ9_min_7cf53_2 : decode cJ9_min_7cf53 2 = .ok (.if_icmp .gt 7, 3) := by decide +kernel
theorem dJ9_min_7cf53_5 : decode cJ9_min_7cf53 5 = .ok (.iload_n 0, 1) := by decide +kernel
theorem dJ9_min_7cf53_6 : decode cJ9_min_7cf53 6 = .ok (.goto 4, 3) := by decide +kernel
theorem dJ9_min_7cf53_9 : decode cJ9_min_7cf53 9 = .ok (.iload_n 1, 1) := by decide +kernel
theorem dJ9_min_7cf53_10 : decode cJ9_min_7cf53 10 = .ok (.ireturn, 1) := by decide +kernel
theorem dJ0_length_8abf5_0 : decode cJ0_length_8abf5 0 = .ok (.aload_n 0, 1) := by decide +kernel
theorem dJ0_length_8abf5_1 : decode cJ0_length_8abf5 1 = .ok (.getfield 9, 3) := by decide +kernel
theorem dJ0_length_8abf5_4 : decode cJ0_length_8abf5 4 = .ok (.arraylength, 1) := by decide +kernel
theorem dJ0_length_8abf5_5 : decode cJ0_length_8abf5 5 = .ok (.aload_n 0, 1) := by decide +kernel
theorem dJ0_length_8abf5_6 : decode cJ0_length_8abf5 6 = .ok (.invokevirtual 335, 3) := by decide +kernel
theorem dJ0_length_8abf5_9 : decode cJ0_length_8abf5 9 = .ok (.ishr, 1) := by decide +kernel
theorem dJ0_length_8abf5_10 : decode cJ0_length_8abf5 10 = .ok (.ireturn, 1) := by decide +kernel
theorem dJ0_charAt_5068e_0 : decode cJ0_charAt_5068e 0 = .ok (.aload_n 0, 1) := by decide +kernel
theorem dJ0_charAt_5068e_1 : decode cJ0_charAt_5068e 1 = .ok (.invokevirtual 492, 3) := by decide +kernel
theorem dJ0_charAt_5068e_4 : decode cJ0_charAt_5068e 4 = .ok (.ifCond .eq 12, 3) := by decide +kernel
theorem dJ0_charAt_5068e_7 : decode cJ0_charAt_5068e 7 = .ok (.aload_n 0, 1) := by decide +kernel
theorem dJ0_charAt_5068e_8 : decode cJ0_charAt_5068e 8 = .ok (.getfield 9, 3) := by decide +kernel
theorem dJ0_charAt_5068e_11 : decode cJ0_charAt_5068e 11 = .ok (.iload_n 1, 1) := by decide +kernel
theorem dJ0_charAt_5068e_12 : decode cJ0_charAt_5068e 12 = .ok (.invokestatic 495, 3) := by decide +kernel
theorem dJ0_charAt_5068e_15 : decode cJ0_charAt_5068e 15 = .ok (.ireturn, 1) := by decide +kernel
theorem dJ0_charAt_5068e_16 : decode cJ0_charAt_5068e 16 = .ok (.aload_n 0, 1) := by decide +kernel
theorem dJ0_charAt_5068e_17 : decode cJ0_charAt_5068e 17 = .ok (.getfield 9, 3) := by decide +kernel
theorem dJ0_charAt_5068e_20 : decode cJ0_charAt_5068e 20 = .ok (.iload_n 1, 1) := by decide +kernel
theorem dJ0_charAt_5068e_21 : decode cJ0_charAt_5068e 21 = .ok (.invokestatic 498, 3) := by decide +kernel
theorem dJ0_charAt_5068e_24 : decode cJ0_charAt_5068e 24 = .ok (.ireturn, 1) := by decide +kernel
theorem dJ0_indexOf_0f7a4_0 : decode cJ0_indexOf_0f7a4 0 = .ok (.aload_n 0, 1) := by decide +kernel
theorem dJ0_indexOf_0f7a4_1 : decode cJ0_indexOf_0f7a4 1 = .ok (.iload_n 1, 1) := by decide +kernel
theorem dJ0_indexOf_0f7a4_2 : decode cJ0_indexOf_0f7a4 2 = .ok (.iconst 0, 1) := by decide +kernel
theorem dJ0_indexOf_0f7a4_3 : decode cJ0_indexOf_0f7a4 3 = .ok (.invokevirtual 633, 3) := by decide +kernel
theorem dJ0_indexOf_0f7a4_6 : decode cJ0_indexOf_0f7a4 6 = .ok (.ireturn, 1) := by decide +kernel
theorem dJ0_indexOf_7cf53_0 : decode cJ0_indexOf_7cf53 0 = .ok (.aload_n 0, 1) := by decide +kernel
theorem dJ0_indexOf_7cf53_1 : decode cJ0_indexOf_7cf53 1 = .ok (.invokevirtual 492, 3) := by decide +kernel
theorem dJ0_indexOf_7cf53_4 : decode cJ0_indexOf_7cf53 4 = .ok (.ifCond .eq 19, 3) := by decide +kernel
theorem dJ0_indexOf_7cf53_7 : decode cJ0_indexOf_7cf53 7 = .ok (.aload_n 0, 1) := by decide +kernel
theorem dJ0_indexOf_7cf53_8 : decode cJ0_indexOf_7cf53 8 = .ok (.getfield 9, 3) := by decide +kernel
theorem dJ0_indexOf_7cf53_11 : decode cJ0_indexOf_7cf53 11 = .ok (.iload_n 1, 1) := by decide +kernel
theorem dJ0_indexOf_7cf53_12 : decode cJ0_indexOf_7cf53 12 = .ok (.iload_n 2, 1) := by decide +kernel
theorem dJ0_indexOf_7cf53_13 : decode cJ0_indexOf_7cf53 13 = .ok (.aload_n 0, 1) := by decide +kernel
theorem dJ0_indexOf_7cf53_14 : decode cJ0_indexOf_7cf53 14 = .ok (.invokevirtual 505, 3) := by decide +kernel
theorem dJ0_indexOf_7cf53_17 : decode cJ0_indexOf_7cf53 17 = .ok (.invokestatic 637, 3) := by decide +kernel
theorem dJ0_indexOf_7cf53_20 : decode cJ0_indexOf_7cf53 20 = .ok (.goto 16, 3) := by decide +kernel
theorem dJ0_indexOf_7cf53_23 : decode cJ0_indexOf_7cf53 23 = .ok (.aload_n 0, 1) := by decide +kernel
theorem dJ0_indexOf_7cf53_24 : decode cJ0_indexOf_7cf53 24 = .ok (.getfield 9, 3) := by decide +kernel
theorem dJ0_indexOf_7cf53_27 : decode cJ0_indexOf_7cf53 27 = .ok (.iload_n 1, 1) := by decide +kernel
theorem dJ0_indexOf_7cf53_28 : decode cJ0_indexOf_7cf53 28 = .ok (.iload_n 2, 1) := by decide +kernel
theorem dJ0_indexOf_7cf53_29 : decode cJ0_indexOf_7cf53 29 = .ok (.aload_n 0, 1) := by decide +kernel
theorem dJ0_indexOf_7cf53_30 : decode cJ0_indexOf_7cf53 30 = .ok (.invokevirtual 505, 3) := by decide +kernel
theorem dJ0_indexOf_7cf53_33 : decode cJ0_indexOf_7cf53 33 = .ok (.invokestatic 640, 3) := by decide +kernel
theorem dJ0_indexOf_7cf53_36 : decode cJ0_indexOf_7cf53 36 = .ok (.ireturn, 1) := by decide +kernel
theorem dJ0_coder_7d493_0 : decode cJ0_coder_7d493 0 = .ok (.getstatic 38, 3) := by decide +kernel
theorem dJ0_coder_7d493_3 : decode cJ0_coder_7d493 3 = .ok (.ifCond .eq 10, 3) := by decide +kernel
theorem dJ0_coder_7d493_6 : decode cJ0_coder_7d493 6 = .ok (.aload_n 0, 1) := by decide +kernel
theorem dJ0_coder_7d493_7 : decode cJ0_coder_7d493 7 = .ok (.getfield 15, 3) := by decide +kernel
theorem dJ0_coder_7d493_10 : decode cJ0_coder_7d493 10 = .ok (.goto 4, 3) := by decide +kernel
theorem dJ0_coder_7d493_13 : decode cJ0_coder_7d493 13 = .ok (.iconst 1, 1) := by decide +kernel
theorem dJ0_coder_7d493_14 : decode cJ0_coder_7d493 14 = .ok (.ireturn, 1) := by decide +kernel
theorem dJ0_isLatin1_aae02_0 : decode cJ0_isLatin1_aae02 0 = .ok (.getstatic 38, 3) := by decide +kernel
theorem dJ0_isLatin1_aae02_3 : decode cJ0_isLatin1_aae02 3 = .ok (.ifCond .eq 14, 3) := by decide +kernel
theorem dJ0_isLatin1_aae02_6 : decode cJ0_isLatin1_aae02 6 = .ok (.aload_n 0, 1) := by decide +kernel
theorem dJ0_isLatin1_aae02_7 : decode cJ0_isLatin1_aae02 7 = .ok (.getfield 15, 3) := by decide +kernel
theorem dJ0_isLatin1_aae02_10 : decode cJ0_isLatin1_aae02 10 = .ok (.ifCond .ne 7, 3) := by decide +kernel
theorem dJ0_isLatin1_aae02_13 : decode cJ0_isLatin1_aae02 13 = .ok (.iconst 1, 1) := by decide +kernel
theorem dJ0_isLatin1_aae02_14 : decode cJ0_isLatin1_aae02 14 = .ok (.goto 4, 3) := by decide +kernel
theorem dJ0_isLatin1_aae02_17 : decode cJ0_isLatin1_aae02 17 = .ok (.iconst 0, 1) := by decide +kernel
theorem dJ0_isLatin1_aae02_18 : decode cJ0_isLatin1_aae02 18 = .ok (.ireturn, 1) := by decide +kernel
theorem dJ0_checkIndex_df160_0 : decode cJ0_checkIndex_df160 0 = .ok (.iload_n 0, 1) := by decide +kernel
theorem dJ0_checkIndex_df160_1 : decode cJ0_checkIndex_df160 1 = .ok (.iload_n 1, 1) := by decide +kernel
theorem dJ0_checkIndex_df160_2 : decode cJ0_checkIndex_df160 2 = .ok (.getstatic 1053, 3) := by decide +kernel
theorem dJ0_checkIndex_df160_5 : decode cJ0_checkIndex_df160 5 = .ok (.invokestatic 1059, 3) := by decide +kernel
theorem dJ0_checkIndex_df160_8 : decode cJ0_checkIndex_df160 8 = .ok (.pop, 1) := by decide +kernel
theorem dJ0_checkIndex_df160_9 : decode cJ0_checkIndex_df160 9 = .ok (.return_, 1) := by decide +kernel
theorem dJ0_checkBoundsBeginEnd_23922_0 : decode cJ0_checkBoundsBeginEnd_23922 0 = .ok (.iload_n 0, 1) := by decide +kernel
theorem dJ0_checkBoundsBeginEnd_23922_1 : decode cJ0_checkBoundsBeginEnd_23922 1 = .ok (.iload_n 1, 1) := by decide +kernel
theorem dJ0_checkBoundsBeginEnd_23922_2 : decode cJ0_checkBoundsBeginEnd_23922 2 = .ok (.iload_n 2, 1) := by decide +kernel
theorem dJ0_checkBoundsBeginEnd_23922_3 : decode cJ0_checkBoundsBeginEnd_23922 3 = .ok (.getstatic 1053, 3) := by decide +kernel
theorem dJ0_checkBoundsBeginEnd_23922_6 : decode cJ0_checkBoundsBeginEnd_23922 6 = .ok (.invokestatic 1062, 3) := by decide +kernel
theorem dJ0_checkBoundsBeginEnd_23922_9 : decode cJ0_checkBoundsBeginEnd_23922 9 = .ok (.pop, 1) := by decide +kernel
theorem dJ0_checkBoundsBeginEnd_23922_10 : decode cJ0_checkBoundsBeginEnd_23922 10 = .ok (.return_, 1) := by decide +kernel
theorem dJ1_charAt_3b067_0 : decode cJ1_charAt_3b067 0 = .ok (.iload_n 1, 1) := by decide +kernel
theorem dJ1_charAt_3b067_1 : decode cJ1_charAt_3b067 1 = .ok (.aload_n 0, 1) := by decide +kernel
theorem dJ1_charAt_3b067_2 : decode cJ1_charAt_3b067 2 = .ok (.arraylength, 1) := by decide +kernel
theorem dJ1_charAt_3b067_3 : decode cJ1_charAt_3b067 3 = .ok (.invokestatic 9, 3) := by decide +kernel
theorem dJ1_charAt_3b067_6 : decode cJ1_charAt_3b067 6 = .ok (.aload_n 0, 1) := by decide +kernel
theorem dJ1_charAt_3b067_7 : decode cJ1_charAt_3b067 7 = .ok (.iload_n 1, 1) := by decide +kernel
theorem dJ1_charAt_3b067_8 : decode cJ1_charAt_3b067 8 = .ok (.baload, 1) := by decide +kernel
theorem dJ1_charAt_3b067_9 : decode cJ1_charAt_3b067 9 = .ok (.sipush 255, 3) := by decide +kernel
theorem dJ1_charAt_3b067_12 : decode cJ1_charAt_3b067 12 = .ok (.iand, 1) := by decide +kernel
theorem dJ1_charAt_3b067_13 : decode cJ1_charAt_3b067 13 = .ok (.i2c, 1) := by decide +kernel
theorem dJ1_charAt_3b067_14 : decode cJ1_charAt_3b067 14 = .ok (.ireturn, 1) := by decide +kernel
theorem dJ1_canEncode_9a6ad_0 : decode cJ1_canEncode_9a6ad 0 = .ok (.iload_n 0, 1) := by decide +kernel
theorem dJ1_canEncode_9a6ad_1 : decode cJ1_canEncode_9a6ad 1 = .ok (.ifCond .lt 14, 3) := by decide +kernel
theorem dJ1_canEncode_9a6ad_4 : decode cJ1_canEncode_9a6ad 4 = .ok (.iload_n 0, 1) := by decide +kernel
theorem dJ1_canEncode_9a6ad_5 : decode cJ1_canEncode_9a6ad 5 = .ok (.sipush 255, 3) := by decide +kernel
theorem dJ1_canEncode_9a6ad_8 : decode cJ1_canEncode_9a6ad 8 = .ok (.if_icmp .gt 7, 3) := by decide +kernel
theorem dJ1_canEncode_9a6ad_11 : decode cJ1_canEncode_9a6ad 11 = .ok (.iconst 1, 1) := by decide +kernel
theorem dJ1_canEncode_9a6ad_12 : decode cJ1_canEncode_9a6ad 12 = .ok (.goto 4, 3) := by decide +kernel
theorem dJ1_canEncode_9a6ad_15 : decode cJ1_canEncode_9a6ad 15 = .ok (.iconst 0, 1) := by decide +kernel
theorem dJ1_canEncode_9a6ad_16 : decode cJ1_canEncode_9a6ad 16 = .ok (.ireturn, 1) := by decide +kernel
theorem dJ1_indexOf_4cfef_0 : decode cJ1_indexOf_4cfef 0 = .ok (.iload_n 1, 1) := by decide +kernel
theorem dJ1_indexOf_4cfef_1 : decode cJ1_indexOf_4cfef 1 = .ok (.invokestatic 88, 3) := by decide +kernel
theorem dJ1_indexOf_4cfef_4 : decode cJ1_indexOf_4cfef 4 = .ok (.ifCond .ne 5, 3) := by decide +kernel
theorem dJ1_indexOf_4cfef_7 : decode cJ1_indexOf_4cfef 7 = .ok (.iconst (-1), 1) := by decide +kernel
theorem dJ1_indexOf_4cfef_8 : decode cJ1_indexOf_4cfef 8 = .ok (.ireturn, 1) := by decide +kernel
theorem dJ1_indexOf_4cfef_9 : decode cJ1_indexOf_4cfef 9 = .ok (.iload_n 2, 1) := by decide +kernel
theorem dJ1_indexOf_4cfef_10 : decode cJ1_indexOf_4cfef 10 = .ok (.iconst 0, 1) := by decide +kernel
theorem dJ1_indexOf_4cfef_11 : decode cJ1_indexOf_4cfef 11 = .ok (.invokestatic 92, 3) := by decide +kernel
theorem dJ1_indexOf_4cfef_14 : decode cJ1_indexOf_4cfef 14 = .ok (.istore_n 2, 1) := by decide +kernel
theorem dJ1_indexOf_4cfef_15 : decode cJ1_indexOf_4cfef 15 = .ok (.iload_n 3, 1) := by decide +kernel
theorem dJ1_indexOf_4cfef_16 : decode cJ1_indexOf_4cfef 16 = .ok (.aload_n 0, 1) := by decide +kernel
theorem dJ1_indexOf_4cfef_17 : decode cJ1_indexOf_4cfef 17 = .ok (.arraylength, 1) := by decide +kernel
theorem dJ1_indexOf_4cfef_18 : decode cJ1_indexOf_4cfef 18 = .ok (.invokestatic 38, 3) := by decide +kernel
theorem dJ1_indexOf_4cfef_21 : decode cJ1_indexOf_4cfef 21 = .ok (.istore_n 3, 1) := by decide +kernel
theorem dJ1_indexOf_4cfef_22 : decode cJ1_indexOf_4cfef 22 = .ok (.iload_n 2, 1) := by decide +kernel
theorem dJ1_indexOf_4cfef_23 : decode cJ1_indexOf_4cfef 23 = .ok (.iload_n 3, 1) := by decide +kernel
theorem dJ1_indexOf_4cfef_24 : decode cJ1_indexOf_4cfef 24 = .ok (.if_icmp .lt 5, 3) := by decide +kernel
theorem dJ1_indexOf_4cfef_27 : decode cJ1_indexOf_4cfef 27 = .ok (.iconst (-1), 1) := by decide +kernel
theorem dJ1_indexOf_4cfef_28 : decode cJ1_indexOf_4cfef 28 = .ok (.ireturn, 1) := by decide +kernel
theorem dJ1_indexOf_4cfef_29 : decode cJ1_indexOf_4cfef 29 = .ok (.aload_n 0, 1) := by decide +kernel
theorem dJ1_indexOf_4cfef_30 : decode cJ1_indexOf_4cfef 30 = .ok (.iload_n 1, 1) := by decide +kernel
theorem dJ1_indexOf_4cfef_31 : decode cJ1_indexOf_4cfef 31 = .ok (.iload_n 2, 1) := by decide +kernel
theorem dJ1_indexOf_4cfef_32 : decode cJ1_indexOf_4cfef 32 = .ok (.iload_n 3, 1) := by decide +kernel
theorem dJ1_indexOf_4cfef_33 : decode cJ1_indexOf_4cfef 33 = .ok (.invokestatic 95, 3) := by decide +kernel
theorem dJ1_indexOf_4cfef_36 : decode cJ1_indexOf_4cfef 36 = .ok (.ireturn, 1) := by decide +kernel
theorem dJ1_indexOfChar_4cfef_0 : decode cJ1_indexOfChar_4cfef 0 = .ok (.iload_n 1, 1) := by decide +kernel
theorem dJ1_indexOfChar_4cfef_1 : decode cJ1_indexOfChar_4cfef 1 = .ok (.i2b, 1) := by decide +kernel
theorem dJ1_indexOfChar_4cfef_2 : decode cJ1_indexOfChar_4cfef 2 = .ok (.istore 4, 2) := by decide +kernel
theorem dJ1_indexOfChar_4cfef_4 : decode cJ1_indexOfChar_4cfef 4 = .ok (.iload_n 2, 1) := by decide +kernel
theorem dJ1_indexOfChar_4cfef_5 : decode cJ1_indexOfChar_4cfef 5 = .ok (.istore 5, 2) := by decide +kernel
theorem dJ1_indexOfChar_4cfef_7 : decode cJ1_indexOfChar_4cfef 7 = .ok (.iload 5, 2) := by decide +kernel
theorem dJ1_indexOfChar_4cfef_9 : decode cJ1_indexOfChar_4cfef 9 = .ok (.iload_n 3, 1) := by decide +kernel
theorem dJ1_indexOfChar_4cfef_10 : decode cJ1_indexOfChar_4cfef 10 = .ok (.if_icmp .ge 21, 3) := by decide +kernel
theorem dJ1_indexOfChar_4cfef_13 : decode cJ1_indexOfChar_4cfef 13 = .ok (.aload_n 0, 1) := by decide +kernel
theorem dJ1_indexOfChar_4cfef_14 : decode cJ1_indexOfChar_4cfef 14 = .ok (.iload 5, 2) := by decide +kernel
theorem dJ1_indexOfChar_4cfef_16 : decode cJ1_indexOfChar_4cfef 16 = .ok (.baload, 1) := by decide +kernel
theorem dJ1_indexOfChar_4cfef_17 : decode cJ1_indexOfChar_4cfef 17 = .ok (.iload 4, 2) := by decide +kernel
theorem dJ1_indexOfChar_4cfef_19 : decode cJ1_indexOfChar_4cfef 19 = .ok (.if_icmp .ne 6, 3) := by decide +kernel
theorem dJ1_indexOfChar_4cfef_22 : decode cJ1_indexOfChar_4cfef 22 = .ok (.iload 5, 2) := by decide +kernel
theorem dJ1_indexOfChar_4cfef_24 : decode cJ1_indexOfChar_4cfef 24 = .ok (.ireturn, 1) := by decide +kernel
theorem dJ1_indexOfChar_4cfef_25 : decode cJ1_indexOfChar_4cfef 25 = .ok (.iinc 5 1, 3) := by decide +kernel
theorem dJ1_indexOfChar_4cfef_28 : decode cJ1_indexOfChar_4cfef 28 = .ok (.goto (-21), 3) := by decide +kernel
theorem dJ1_indexOfChar_4cfef_31 : decode cJ1_indexOfChar_4cfef 31 = .ok (.iconst (-1), 1) := by decide +kernel
theorem dJ1_indexOfChar_4cfef_32 : decode cJ1_indexOfChar_4cfef 32 = .ok (.ireturn, 1) := by decide +kernel
theorem dJ2_getChar_3b067_0 : decode cJ2_getChar_3b067 0 = .ok (.getstatic 44, 3) := by decide +kernel
theorem dJ2_getChar_3b067_3 : decode cJ2_getChar_3b067 3 = .ok (.ifCond .ne 25, 3) := by decide +kernel
theorem dJ2_getChar_3b067_6 : decode cJ2_getChar_3b067 6 = .ok (.iload_n 1, 1) := by decide +kernel
theorem dJ2_getChar_3b067_7 : decode cJ2_getChar_3b067 7 = .ok (.ifCond .lt 11, 3) := by decide +kernel
theorem dJ2_getChar_3b067_10 : decode cJ2_getChar_3b067 10 = .ok (.iload_n 1, 1) := by decide +kernel
theorem dJ2_getChar_3b067_11 : decode cJ2_getChar_3b067 11 = .ok (.aload_n 0, 1) := by decide +kernel
theorem dJ2_getChar_3b067_12 : decode cJ2_getChar_3b067 12 = .ok (.invokestatic 48, 3) := by decide +kernel
theorem dJ2_getChar_3b067_15 : decode cJ2_getChar_3b067 15 = .ok (.if_icmp .lt 13, 3) := by decide +kernel
theorem dJ2_getChar_3b067_18 : decode cJ2_getChar_3b067 18 = .ok (.new 52, 3) := by decide +kernel
theorem dJ2_getChar_3b067_21 : decode cJ2_getChar_3b067 21 = .ok (.dup, 1) := by decide +kernel
theorem dJ2_getChar_3b067_22 : decode cJ2_getChar_3b067 22 = .ok (.ldc 54, 2) := by decide +kernel
theorem dJ2_getChar_3b067_24 : decode cJ2_getChar_3b067 24 = .ok (.invokespecial 56, 3) := by decide +kernel
theorem dJ2_getChar_3b067_27 : decode cJ2_getChar_3b067 27 = .ok (.athrow, 1) := by decide +kernel
theorem dJ2_getChar_3b067_28 : decode cJ2_getChar_3b067 28 = .ok (.iload_n 1, 1) := by decide +kernel
theorem dJ2_getChar_3b067_29 : decode cJ2_getChar_3b067 29 = .ok (.iconst 1, 1) := by decide +kernel
theorem dJ2_getChar_3b067_30 : decode cJ2_getChar_3b067 30 = .ok (.ishl, 1) := by decide +kernel
theorem dJ2_getChar_3b067_31 : decode cJ2_getChar_3b067 31 = .ok (.istore_n 1, 1) := by decide +kernel
theorem dJ2_getChar_3b067_32 : decode cJ2_getChar_3b067 32 = .ok (.aload_n 0, 1) := by decide +kernel
theorem dJ2_getChar_3b067_33 : decode cJ2_getChar_3b067 33 = .ok (.iload_n 1, 1) := by decide +kernel
theorem dJ2_getChar_3b067_34 : decode cJ2_getChar_3b067 34 = .ok (.iinc 1 1, 3) := by decide +kernel
theorem dJ2_getChar_3b067_37 : decode cJ2_getChar_3b067 37 = .ok (.baload, 1) := by decide +kernel
theorem dJ2_getChar_3b067_38 : decode cJ2_getChar_3b067 38 = .ok (.sipush 255, 3) := by decide +kernel
theorem dJ2_getChar_3b067_41 : decode cJ2_getChar_3b067 41 = .ok (.iand, 1) := by decide +kernel
theorem dJ2_getChar_3b067_42 : decode cJ2_getChar_3b067 42 = .ok (.getstatic 59, 3) := by decide +kernel
theorem dJ2_getChar_3b067_45 : decode cJ2_getChar_3b067 45 = .ok (.ishl, 1) := by decide +kernel
theorem dJ2_getChar_3b067_46 : decode cJ2_getChar_3b067 46 = .ok (.aload_n 0, 1) := by decide +kernel
theorem dJ2_getChar_3b067_47 : decode cJ2_getChar_3b067 47 = .ok (.iload_n 1, 1) := by decide +kernel
theorem dJ2_getChar_3b067_48 : decode cJ2_getChar_3b067 48 = .ok (.baload, 1) := by decide +kernel
theorem dJ2_getChar_3b067_49 : decode cJ2_getChar_3b067 49 = .ok (.sipush 255, 3) := by decide +kernel
theorem dJ2_getChar_3b067_52 : decode cJ2_getChar_3b067 52 = .ok (.iand, 1) := by decide +kernel
theorem dJ2_getChar_3b067_53 : decode cJ2_getChar_3b067 53 = .ok (.getstatic 63, 3) := by decide +kernel
theorem dJ2_getChar_3b067_56 : decode cJ2_getChar_3b067 56 = .ok (.ishl, 1) := by decide +kernel
theorem dJ2_getChar_3b067_57 : decode cJ2_getChar_3b067 57 = .ok (.ior, 1) := by decide +kernel
theorem dJ2_getChar_3b067_58 : decode cJ2_getChar_3b067 58 = .ok (.i2c, 1) := by decide +kernel
theorem dJ2_getChar_3b067_59 : decode cJ2_getChar_3b067 59 = .ok (.ireturn, 1) := by decide +kernel
theorem dJ2_length_9d52b_0 : decode cJ2_length_9d52b 0 = .ok (.aload_n 0, 1) := by decide +kernel
theorem dJ2_length_9d52b_1 : decode cJ2_length_9d52b 1 = .ok (.arraylength, 1) := by decide +kernel
theorem dJ2_length_9d52b_2 : decode cJ2_length_9d52b 2 = .ok (.iconst 1, 1) := by decide +kernel
theorem dJ2_length_9d52b_3 : decode cJ2_length_9d52b 3 = .ok (.ishr, 1) := by decide +kernel
theorem dJ2_length_9d52b_4 : decode cJ2_length_9d52b 4 = .ok (.ireturn, 1) := by decide +kernel
theorem dJ2_indexOf_4cfef_0 : decode cJ2_indexOf_4cfef 0 = .ok (.iload_n 2, 1) := by decide +kernel
theorem dJ2_indexOf_4cfef_1 : decode cJ2_indexOf_4cfef 1 = .ok (.iconst 0, 1) := by decide +kernel
theorem dJ2_indexOf_4cfef_2 : decode cJ2_indexOf_4cfef 2 = .ok (.invokestatic 224, 3) := by decide +kernel
theorem dJ2_indexOf_4cfef_5 : decode cJ2_indexOf_4cfef 5 = .ok (.istore_n 2, 1) := by decide +kernel
theorem dJ2_indexOf_4cfef_6 : decode cJ2_indexOf_4cfef 6 = .ok (.iload_n 3, 1) := by decide +kernel
theorem dJ2_indexOf_4cfef_7 : decode cJ2_indexOf_4cfef 7 = .ok (.aload_n 0, 1) := by decide +kernel
theorem dJ2_indexOf_4cfef_8 : decode cJ2_indexOf_4cfef 8 = .ok (.arraylength, 1) := by decide +kernel
theorem dJ2_indexOf_4cfef_9 : decode cJ2_indexOf_4cfef 9 = .ok (.iconst 1, 1) := by decide +kernel
theorem dJ2_indexOf_4cfef_10 : decode cJ2_indexOf_4cfef 10 = .ok (.ishr, 1) := by decide +kernel
theorem dJ2_indexOf_4cfef_11 : decode cJ2_indexOf_4cfef 11 = .ok (.invokestatic 183, 3) := by decide +kernel
theorem dJ2_indexOf_4cfef_14 : decode cJ2_indexOf_4cfef 14 = .ok (.istore_n 3, 1) := by decide +kernel
theorem dJ2_indexOf_4cfef_15 : decode cJ2_indexOf_4cfef 15 = .ok (.iload_n 2, 1) := by decide +kernel
theorem dJ2_indexOf_4cfef_16 : decode cJ2_indexOf_4cfef 16 = .ok (.iload_n 3, 1) := by decide +kernel
theorem dJ2_indexOf_4cfef_17 : decode cJ2_indexOf_4cfef 17 = .ok (.if_icmp .lt 5, 3) := by decide +kernel
theorem dJ2_indexOf_4cfef_20 : decode cJ2_indexOf_4cfef 20 = .ok (.iconst (-1), 1) := by decide +kernel
theorem dJ2_indexOf_4cfef_21 : decode cJ2_indexOf_4cfef 21 = .ok (.ireturn, 1) := by decide +kernel
theorem dJ2_indexOf_4cfef_22 : decode cJ2_indexOf_4cfef 22 = .ok (.iload_n 1, 1) := by decide +kernel
theorem dJ2_indexOf_4cfef_23 : decode cJ2_indexOf_4cfef 23 = .ok (.ldc 227, 2) := by decide +kernel
theorem dJ2_indexOf_4cfef_25 : decode cJ2_indexOf_4cfef 25 = .ok (.if_icmp .ge 11, 3) := by decide +kernel
theorem dJ2_indexOf_4cfef_28 : decode cJ2_indexOf_4cfef 28 = .ok (.aload_n 0, 1) := by decide +kernel
theorem dJ2_indexOf_4cfef_29 : decode cJ2_indexOf_4cfef 29 = .ok (.iload_n 1, 1) := by decide +kernel
theorem dJ2_indexOf_4cfef_30 : decode cJ2_indexOf_4cfef 30 = .ok (.iload_n 2, 1) := by decide +kernel
theorem dJ2_indexOf_4cfef_31 : decode cJ2_indexOf_4cfef 31 = .ok (.iload_n 3, 1) := by decide +kernel
theorem dJ2_indexOf_4cfef_32 : decode cJ2_indexOf_4cfef 32 = .ok (.invokestatic 228, 3) := by decide +kernel
theorem dJ2_indexOf_4cfef_35 : decode cJ2_indexOf_4cfef 35 = .ok (.ireturn, 1) := by decide +kernel
theorem dJ2_indexOf_4cfef_36 : decode cJ2_indexOf_4cfef 36 = .ok (.aload_n 0, 1) := by decide +kernel
theorem dJ2_indexOf_4cfef_37 : decode cJ2_indexOf_4cfef 37 = .ok (.iload_n 1, 1) := by decide +kernel
theorem dJ2_indexOf_4cfef_38 : decode cJ2_indexOf_4cfef 38 = .ok (.iload_n 2, 1) := by decide +kernel
theorem dJ2_indexOf_4cfef_39 : decode cJ2_indexOf_4cfef 39 = .ok (.iload_n 3, 1) := by decide +kernel
theorem dJ2_indexOf_4cfef_40 : decode cJ2_indexOf_4cfef 40 = .ok (.invokestatic 232, 3) := by decide +kernel
theorem dJ2_indexOf_4cfef_43 : decode cJ2_indexOf_4cfef 43 = .ok (.ireturn, 1) := by decide +kernel
theorem dJ2_indexOfChar_4cfef_0 : decode cJ2_indexOfChar_4cfef 0 = .ok (.iload_n 2, 1) := by decide +kernel
theorem dJ2_indexOfChar_4cfef_1 : decode cJ2_indexOfChar_4cfef 1 = .ok (.iload_n 3, 1) := by decide +kernel
theorem dJ2_indexOfChar_4cfef_2 : decode cJ2_indexOfChar_4cfef 2 = .ok (.aload_n 0, 1) := by decide +kernel
theorem dJ2_indexOfChar_4cfef_3 : decode cJ2_indexOfChar_4cfef 3 = .ok (.invokestatic 96, 3) := by decide +kernel
theorem dJ2_indexOfChar_4cfef_6 : decode cJ2_indexOfChar_4cfef 6 = .ok (.aload_n 0, 1) := by decide +kernel
theorem dJ2_indexOfChar_4cfef_7 : decode cJ2_indexOfChar_4cfef 7 = .ok (.iload_n 1, 1) := by decide +kernel
theorem dJ2_indexOfChar_4cfef_8 : decode cJ2_indexOfChar_4cfef 8 = .ok (.iload_n 2, 1) := by decide +kernel
theorem dJ2_indexOfChar_4cfef_9 : decode cJ2_indexOfChar_4cfef 9 = .ok (.iload_n 3, 1) := by decide +kernel
theorem dJ2_indexOfChar_4cfef_10 : decode cJ2_indexOfChar_4cfef 10 = .ok (.invokestatic 244, 3) := by decide +kernel
theorem dJ2_indexOfChar_4cfef_13 : decode cJ2_indexOfChar_4cfef 13 = .ok (.ireturn, 1) := by decide +kernel
theorem dJ2_indexOfCharUnsafe_4cfef_0 : decode cJ2_indexOfCharUnsafe_4cfef 0 = .ok (.iload_n 2, 1) := by decide +kernel
theorem dJ2_indexOfCharUnsafe_4cfef_1 : decode cJ2_indexOfCharUnsafe_4cfef 1 = .ok (.istore 4, 2) := by decide +kernel
theorem dJ2_indexOfCharUnsafe_4cfef_3 : decode cJ2_indexOfCharUnsafe_4cfef 3 = .ok (.iload 4, 2) := by decide +kernel
theorem dJ2_indexOfCharUnsafe_4cfef_5 : decode cJ2_indexOfCharUnsafe_4cfef 5 = .ok (.iload_n 3, 1) := by decide +kernel
theorem dJ2_indexOfCharUnsafe_4cfef_6 : decode cJ2_indexOfCharUnsafe_4cfef 6 = .ok (.if_icmp .ge 22, 3) := by decide +kernel
theorem dJ2_indexOfCharUnsafe_4cfef_9 : decode cJ2_indexOfCharUnsafe_4cfef 9 = .ok (.aload_n 0, 1) := by decide +kernel
theorem dJ2_indexOfCharUnsafe_4cfef_10 : decode cJ2_indexOfCharUnsafe_4cfef 10 = .ok (.iload 4, 2) := by decide +kernel
theorem dJ2_indexOfCharUnsafe_4cfef_12 : decode cJ2_indexOfCharUnsafe_4cfef 12 = .ok (.invokestatic 71, 3) := by decide +kernel
theorem dJ2_indexOfCharUnsafe_4cfef_15 : decode cJ2_indexOfCharUnsafe_4cfef 15 = .ok (.iload_n 1, 1) := by decide +kernel
theorem dJ2_indexOfCharUnsafe_4cfef_16 : decode cJ2_indexOfCharUnsafe_4cfef 16 = .ok (.if_icmp .ne 6, 3) := by decide +kernel
theorem dJ2_indexOfCharUnsafe_4cfef_19 : decode cJ2_indexOfCharUnsafe_4cfef 19 = .ok (.iload 4, 2) := by decide +kernel
theorem dJ2_indexOfCharUnsafe_4cfef_21 : decode cJ2_indexOfCharUnsafe_4cfef 21 = .ok (.ireturn, 1) := by decide +kernel
theorem dJ2_indexOfCharUnsafe_4cfef_22 : decode cJ2_indexOfCharUnsafe_4cfef 22 = .ok (.iinc 4 1, 3) := by decide +kernel
theorem dJ2_indexOfCharUnsafe_4cfef_25 : decode cJ2_indexOfCharUnsafe_4cfef 25 = .ok (.goto (-22), 3) := by decide +kernel
theorem dJ2_indexOfCharUnsafe_4cfef_28 : decode cJ2_indexOfCharUnsafe_4cfef 28 = .ok (.iconst (-1), 1) := by decide +kernel
theorem dJ2_indexOfCharUnsafe_4cfef_29 : decode cJ2_indexOfCharUnsafe_4cfef 29 = .ok (.ireturn, 1) := by decide +kernel
theorem dJ2_indexOfSupplementary_4cfef_0 : decode cJ2_indexOfSupplementary_4cfef 0 = .ok (.iload_n 1, 1) := by decide +kernel
theorem dJ2_indexOfSupplementary_4cfef_1 : decode cJ2_indexOfSupplementary_4cfef 1 = .ok (.invokestatic 164, 3) := by decide +kernel
theorem dJ2_indexOfSupplementary_4cfef_4 : decode cJ2_indexOfSupplementary_4cfef 4 = .ok (.ifCond .eq 65, 3) := by decide +kernel
theorem dJ2_indexOfSupplementary_4cfef_7 : decode cJ2_indexOfSupplementary_4cfef 7 = .ok (.iload_n 1, 1) := by decide +kernel
theorem dJ2_indexOfSupplementary_4cfef_8 : decode cJ2_indexOfSupplementary_4cfef 8 = .ok (.invokestatic 157, 3) := by decide +kernel
theorem dJ2_indexOfSupplementary_4cfef_11 : decode cJ2_indexOfSupplementary_4cfef 11 = .ok (.istore 4, 2) := by decide +kernel
theorem dJ2_indexOfSupplementary_4cfef_13 : decode cJ2_indexOfSupplementary_4cfef 13 = .ok (.iload_n 1, 1) := by decide +kernel
theorem dJ2_indexOfSupplementary_4cfef_14 : decode cJ2_indexOfSupplementary_4cfef 14 = .ok (.invokestatic 161, 3) := by decide +kernel
theorem dJ2_indexOfSupplementary_4cfef_17 : decode cJ2_indexOfSupplementary_4cfef 17 = .ok (.istore 5, 2) := by decide +kernel
theorem dJ2_indexOfSupplementary_4cfef_19 : decode cJ2_indexOfSupplementary_4cfef 19 = .ok (.iload_n 2, 1) := by decide +kernel
theorem dJ2_indexOfSupplementary_4cfef_20 : decode cJ2_indexOfSupplementary_4cfef 20 = .ok (.iload_n 3, 1) := by decide +kernel
theorem dJ2_indexOfSupplementary_4cfef_21 : decode cJ2_indexOfSupplementary_4cfef 21 = .ok (.aload_n 0, 1) := by decide +kernel
theorem dJ2_indexOfSupplementary_4cfef_22 : decode cJ2_indexOfSupplementary_4cfef 22 = .ok (.invokestatic 96, 3) := by decide +kernel
theorem dJ2_indexOfSupplementary_4cfef_25 : decode cJ2_indexOfSupplementary_4cfef 25 = .ok (.iload_n 2, 1) := by decide +kernel
theorem dJ2_indexOfSupplementary_4cfef_26 : decode cJ2_indexOfSupplementary_4cfef 26 = .ok (.istore 6, 2) := by decide +kernel
theorem dJ2_indexOfSupplementary_4cfef_28 : decode cJ2_indexOfSupplementary_4cfef 28 = .ok (.iload 6, 2) := by decide +kernel
theorem dJ2_indexOfSupplementary_4cfef_30 : decode cJ2_indexOfSupplementary_4cfef 30 = .ok (.iload_n 3, 1) := by decide +kernel
theorem dJ2_indexOfSupplementary_4cfef_31 : decode cJ2_indexOfSupplementary_4cfef 31 = .ok (.iconst 1, 1) := by decide +kernel
theorem dJ2_indexOfSupplementary_4cfef_32 : decode cJ2_indexOfSupplementary_4cfef 32 = .ok (.isub, 1) := by decide +kernel
theorem dJ2_indexOfSupplementary_4cfef_33 : decode cJ2_indexOfSupplementary_4cfef 33 = .ok (.if_icmp .ge 36, 3) := by decide +kernel
theorem dJ2_indexOfSupplementary_4cfef_36 : decode cJ2_indexOfSupplementary_4cfef 36 = .ok (.aload_n 0, 1) := by decide +kernel
theorem dJ2_indexOfSupplementary_4cfef_37 : decode cJ2_indexOfSupplementary_4cfef 37 = .ok (.iload 6, 2) := by decide +kernel
theorem dJ2_indexOfSupplementary_4cfef_39 : decode cJ2_indexOfSupplementary_4cfef 39 = .ok (.invokestatic 71, 3) := by decide +kernel
theorem dJ2_indexOfSupplementary_4cfef_42 : decode cJ2_indexOfSupplementary_4cfef 42 = .ok (.iload 4, 2) := by decide +kernel
theorem dJ2_indexOfSupplementary_4cfef_44 : decode cJ2_indexOfSupplementary_4cfef 44 = .ok (.if_icmp .ne 19, 3) := by decide +kernel
theorem dJ2_indexOfSupplementary_4cfef_47 : decode cJ2_indexOfSupplementary_4cfef 47 = .ok (.aload_n 0, 1) := by decide +kernel
theorem dJ2_indexOfSupplementary_4cfef_48 : decode cJ2_indexOfSupplementary_4cfef 48 = .ok (.iload 6, 2) := by decide +kernel
theorem dJ2_indexOfSupplementary_4cfef_50 : decode cJ2_indexOfSupplementary_4cfef 50 = .ok (.iconst 1, 1) := by decide +kernel
theorem dJ2_indexOfSupplementary_4cfef_51 : decode cJ2_indexOfSupplementary_4cfef 51 = .ok (.iadd, 1) := by decide +kernel
theorem dJ2_indexOfSupplementary_4cfef_52 : decode cJ2_indexOfSupplementary_4cfef 52 = .ok (.invokestatic 71, 3) := by decide +kernel
theorem dJ2_indexOfSupplementary_4cfef_55 : decode cJ2_indexOfSupplementary_4cfef 55 = .ok (.iload 5, 2) := by decide +kernel
theorem dJ2_indexOfSupplementary_4cfef_57 : decode cJ2_indexOfSupplementary_4cfef 57 = .ok (.if_icmp .ne 6, 3) := by decide +kernel
theorem dJ2_indexOfSupplementary_4cfef_60 : decode cJ2_indexOfSupplementary_4cfef 60 = .ok (.iload 6, 2) := by decide +kernel
theorem dJ2_indexOfSupplementary_4cfef_62 : decode cJ2_indexOfSupplementary_4cfef 62 = .ok (.ireturn, 1) := by decide +kernel
theorem dJ2_indexOfSupplementary_4cfef_63 : decode cJ2_indexOfSupplementary_4cfef 63 = .ok (.iinc 6 1, 3) := by decide +kernel
theorem dJ2_indexOfSupplementary_4cfef_66 : decode cJ2_indexOfSupplementary_4cfef 66 = .ok (.goto (-38), 3) := by decide +kernel
theorem dJ2_indexOfSupplementary_4cfef_69 : decode cJ2_indexOfSupplementary_4cfef 69 = .ok (.iconst (-1), 1) := by decide +kernel
theorem dJ2_indexOfSupplementary_4cfef_70 : decode cJ2_indexOfSupplementary_4cfef 70 = .ok (.ireturn, 1) := by decide +kernel
theorem dJ2_charAt_3b067_0 : decode cJ2_charAt_3b067 0 = .ok (.iload_n 1, 1) := by decide +kernel
theorem dJ2_charAt_3b067_1 : decode cJ2_charAt_3b067 1 = .ok (.aload_n 0, 1) := by decide +kernel
theorem dJ2_charAt_3b067_2 : decode cJ2_charAt_3b067 2 = .ok (.invokestatic 67, 3) := by decide +kernel
theorem dJ2_charAt_3b067_5 : decode cJ2_charAt_3b067 5 = .ok (.aload_n 0, 1) := by decide +kernel
theorem dJ2_charAt_3b067_6 : decode cJ2_charAt_3b067 6 = .ok (.iload_n 1, 1) := by decide +kernel
theorem dJ2_charAt_3b067_7 : decode cJ2_charAt_3b067 7 = .ok (.invokestatic 71, 3) := by decide +kernel
theorem dJ2_charAt_3b067_10 : decode cJ2_charAt_3b067 10 = .ok (.ireturn, 1) := by decide +kernel
theorem dJ2_checkIndex_2214a_0 : decode cJ2_checkIndex_2214a 0 = .ok (.iload_n 0, 1) := by decide +kernel
theorem dJ2_checkIndex_2214a_1 : decode cJ2_checkIndex_2214a 1 = .ok (.aload_n 1, 1) := by decide +kernel
theorem dJ2_checkIndex_2214a_2 : decode cJ2_checkIndex_2214a 2 = .ok (.invokestatic 48, 3) := by decide +kernel
theorem dJ2_checkIndex_2214a_5 : decode cJ2_checkIndex_2214a 5 = .ok (.invokestatic 414, 3) := by decide +kernel
theorem dJ2_checkIndex_2214a_8 : decode cJ2_checkIndex_2214a 8 = .ok (.return_, 1) := by decide +kernel
theorem dJ2_checkBoundsBeginEnd_d044e_0 : decode cJ2_checkBoundsBeginEnd_d044e 0 = .ok (.iload_n 0, 1) := by decide +kernel
theorem dJ2_checkBoundsBeginEnd_d044e_1 : decode cJ2_checkBoundsBeginEnd_d044e 1 = .ok (.iload_n 1, 1) := by decide +kernel
theorem dJ2_checkBoundsBeginEnd_d044e_2 : decode cJ2_checkBoundsBeginEnd_d044e 2 = .ok (.aload_n 2, 1) := by decide +kernel
theorem dJ2_checkBoundsBeginEnd_d044e_3 : decode cJ2_checkBoundsBeginEnd_d044e 3 = .ok (.invokestatic 48, 3) := by decide +kernel
theorem dJ2_checkBoundsBeginEnd_d044e_6 : decode cJ2_checkBoundsBeginEnd_d044e 6 = .ok (.invokestatic 241, 3) := by decide +kernel
theorem dJ2_checkBoundsBeginEnd_d044e_9 : decode cJ2_checkBoundsBeginEnd_d044e 9 = .ok (.return_, 1) := by decide +kernel
theorem dJ7_fill_53178_0 : decode cJ7_fill_53178 0 = .ok (.iconst 0, 1) := by decide +kernel
theorem dJ7_fill_53178_1 : decode cJ7_fill_53178 1 = .ok (.istore_n 2, 1) := by decide +kernel
theorem dJ7_fill_53178_2 : decode cJ7_fill_53178 2 = .ok (.aload_n 0, 1) := by decide +kernel
theorem dJ7_fill_53178_3 : decode cJ7_fill_53178 3 = .ok (.arraylength, 1) := by decide +kernel
theorem dJ7_fill_53178_4 : decode cJ7_fill_53178 4 = .ok (.istore_n 3, 1) := by decide +kernel
theorem dJ7_fill_53178_5 : decode cJ7_fill_53178 5 = .ok (.iload_n 2, 1) := by decide +kernel
theorem dJ7_fill_53178_6 : decode cJ7_fill_53178 6 = .ok (.iload_n 3, 1) := by decide +kernel
theorem dJ7_fill_53178_7 : decode cJ7_fill_53178 7 = .ok (.if_icmp .ge 13, 3) := by decide +kernel
theorem dJ7_fill_53178_10 : decode cJ7_fill_53178 10 = .ok (.aload_n 0, 1) := by decide +kernel
theorem dJ7_fill_53178_11 : decode cJ7_fill_53178 11 = .ok (.iload_n 2, 1) := by decide +kernel
theorem dJ7_fill_53178_12 : decode cJ7_fill_53178 12 = .ok (.iload_n 1, 1) := by decide +kernel
theorem dJ7_fill_53178_13 : decode cJ7_fill_53178 13 = .ok (.iastore, 1) := by decide +kernel
theorem dJ7_fill_53178_14 : decode cJ7_fill_53178 14 = .ok (.iinc 2 1, 3) := by decide +kernel
theorem dJ7_fill_53178_17 : decode cJ7_fill_53178 17 = .ok (.goto (-12), 3) := by decide +kernel
theorem dJ7_fill_53178_20 : decode cJ7_fill_53178 20 = .ok (.return_, 1) := by decide +kernel
theorem dJ7_copyOf_59c91_0 : decode cJ7_copyOf_59c91 0 = .ok (.iload_n 1, 1) := by decide +kernel
theorem dJ7_copyOf_59c91_1 : decode cJ7_copyOf_59c91 1 = .ok (.aload_n 0, 1) := by decide +kernel
theorem dJ7_copyOf_59c91_2 : decode cJ7_copyOf_59c91 2 = .ok (.arraylength, 1) := by decide +kernel
theorem dJ7_copyOf_59c91_3 : decode cJ7_copyOf_59c91 3 = .ok (.if_icmp .ne 11, 3) := by decide +kernel
theorem dJ7_copyOf_59c91_6 : decode cJ7_copyOf_59c91 6 = .ok (.aload_n 0, 1) := by decide +kernel
theorem dJ7_copyOf_59c91_7 : decode cJ7_copyOf_59c91 7 = .ok (.invokevirtual 316, 3) := by decide +kernel
theorem dJ7_copyOf_59c91_10 : decode cJ7_copyOf_59c91 10 = .ok (.checkcast 317, 3) := by decide +kernel
theorem dJ7_copyOf_59c91_13 : decode cJ7_copyOf_59c91 13 = .ok (.areturn, 1) := by decide +kernel
theorem dJ7_copyOf_59c91_14 : decode cJ7_copyOf_59c91 14 = .ok (.iload_n 1, 1) := by decide +kernel
theorem dJ7_copyOf_59c91_15 : decode cJ7_copyOf_59c91 15 = .ok (.newarray .int, 2) := by decide +kernel
theorem dJ7_copyOf_59c91_17 : decode cJ7_copyOf_59c91 17 = .ok (.astore_n 2, 1) := by decide +kernel
theorem dJ7_copyOf_59c91_18 : decode cJ7_copyOf_59c91 18 = .ok (.aload_n 0, 1) := by decide +kernel
theorem dJ7_copyOf_59c91_19 : decode cJ7_copyOf_59c91 19 = .ok (.iconst 0, 1) := by decide +kernel
theorem dJ7_copyOf_59c91_20 : decode cJ7_copyOf_59c91 20 = .ok (.aload_n 2, 1) := by decide +kernel
theorem dJ7_copyOf_59c91_21 : decode cJ7_copyOf_59c91 21 = .ok (.iconst 0, 1) := by decide +kernel
theorem dJ7_copyOf_59c91_22 : decode cJ7_copyOf_59c91 22 = .ok (.aload_n 0, 1) := by decide +kernel
theorem dJ7_copyOf_59c91_23 : decode cJ7_copyOf_59c91 23 = .ok (.arraylength, 1) := by decide +kernel
theorem dJ7_copyOf_59c91_24 : decode cJ7_copyOf_59c91 24 = .ok (.iload_n 1, 1) := by decide +kernel
theorem dJ7_copyOf_59c91_25 : decode cJ7_copyOf_59c91 25 = .ok (.invokestatic 304, 3) := by decide +kernel
theorem dJ7_copyOf_59c91_28 : decode cJ7_copyOf_59c91 28 = .ok (.invokestatic 150, 3) := by decide +kernel
theorem dJ7_copyOf_59c91_31 : decode cJ7_copyOf_59c91 31 = .ok (.aload_n 2, 1) := by decide +kernel
theorem dJ7_copyOf_59c91_32 : decode cJ7_copyOf_59c91 32 = .ok (.areturn, 1) := by decide +kernel
theorem dJ3_checkIndex_8e157_0 : decode cJ3_checkIndex_8e157 0 = .ok (.iload_n 0, 1) := by decide +kernel
theorem dJ3_checkIndex_8e157_1 : decode cJ3_checkIndex_8e157 1 = .ok (.ifCond .lt 8, 3) := by decide +kernel
theorem dJ3_checkIndex_8e157_4 : decode cJ3_checkIndex_8e157 4 = .ok (.iload_n 0, 1) := by decide +kernel
theorem dJ3_checkIndex_8e157_5 : decode cJ3_checkIndex_8e157 5 = .ok (.iload_n 1, 1) := by decide +kernel
theorem dJ3_checkIndex_8e157_6 : decode cJ3_checkIndex_8e157 6 = .ok (.if_icmp .lt 10, 3) := by decide +kernel
theorem dJ3_checkIndex_8e157_9 : decode cJ3_checkIndex_8e157 9 = .ok (.aload_n 2, 1) := by decide +kernel
theorem dJ3_checkIndex_8e157_10 : decode cJ3_checkIndex_8e157 10 = .ok (.iload_n 0, 1) := by decide +kernel
theorem dJ3_checkIndex_8e157_11 : decode cJ3_checkIndex_8e157 11 = .ok (.iload_n 1, 1) := by decide +kernel
theorem dJ3_checkIndex_8e157_12 : decode cJ3_checkIndex_8e157 12 = .ok (.invokestatic 95, 3) := by decide +kernel
theorem dJ3_checkIndex_8e157_15 : decode cJ3_checkIndex_8e157 15 = .ok (.athrow, 1) := by decide +kernel
theorem dJ3_checkIndex_8e157_16 : decode cJ3_checkIndex_8e157 16 = .ok (.iload_n 0, 1) := by decide +kernel
theorem dJ3_checkIndex_8e157_17 : decode cJ3_checkIndex_8e157 17 = .ok (.ireturn, 1) := by decide +kernel
theorem dJ3_checkFromToIndex_8c36e_0 : decode cJ3_checkFromToIndex_8c36e 0 = .ok (.iload_n 0, 1) := by decide +kernel
theorem dJ3_checkFromToIndex_8c36e_1 : decode cJ3_checkFromToIndex_8c36e 1 = .ok (.ifCond .lt 13, 3) := by decide +kernel
theorem dJ3_checkFromToIndex_8c36e_4 : decode cJ3_checkFromToIndex_8c36e 4 = .ok (.iload_n 0, 1) := by decide +kernel
theorem dJ3_checkFromToIndex_8c36e_5 : decode cJ3_checkFromToIndex_8c36e 5 = .ok (.iload_n 1, 1) := by decide +kernel
theorem dJ3_checkFromToIndex_8c36e_6 : decode cJ3_checkFromToIndex_8c36e 6 = .ok (.if_icmp .gt 8, 3) := by decide +kernel
theorem dJ3_checkFromToIndex_8c36e_9 : decode cJ3_checkFromToIndex_8c36e 9 = .ok (.iload_n 1, 1) := by decide +kernel
theorem dJ3_checkFromToIndex_8c36e_10 : decode cJ3_checkFromToIndex_8c36e 10 = .ok (.iload_n 2, 1) := by decide +kernel
theorem dJ3_checkFromToIndex_8c36e_11 : decode cJ3_checkFromToIndex_8c36e 11 = .ok (.if_icmp .le 11, 3) := by decide +kernel
theorem dJ3_checkFromToIndex_8c36e_14 : decode cJ3_checkFromToIndex_8c36e 14 = .ok (.aload_n 3, 1) := by decide +kernel
theorem dJ3_checkFromToIndex_8c36e_15 : decode cJ3_checkFromToIndex_8c36e 15 = .ok (.iload_n 0, 1) := by decide +kernel
theorem dJ3_checkFromToIndex_8c36e_16 : decode cJ3_checkFromToIndex_8c36e 16 = .ok (.iload_n 1, 1) := by decide +kernel
theorem dJ3_checkFromToIndex_8c36e_17 : decode cJ3_checkFromToIndex_8c36e 17 = .ok (.iload_n 2, 1) := by decide +kernel
theorem dJ3_checkFromToIndex_8c36e_18 : decode cJ3_checkFromToIndex_8c36e 18 = .ok (.invokestatic 99, 3) := by decide +kernel
theorem dJ3_checkFromToIndex_8c36e_21 : decode cJ3_checkFromToIndex_8c36e 21 = .ok (.athrow, 1) := by decide +kernel
theorem dJ3_checkFromToIndex_8c36e_22 : decode cJ3_checkFromToIndex_8c36e 22 = .ok (.iload_n 0, 1) := by decide +kernel
theorem dJ3_checkFromToIndex_8c36e_23 : decode cJ3_checkFromToIndex_8c36e 23 = .ok (.ireturn, 1) := by decide +kernel
theorem dL_law_0 : decode cL_law 0 = .ok (.new 7, 3) := by decide +kernel
theorem dL_law_3 : decode cL_law 3 = .ok (.dup, 1) := by decide +kernel
theorem dL_law_4 : decode cL_law 4 = .ok (.invokespecial 9, 3) := by decide +kernel
theorem dL_law_7 : decode cL_law 7 = .ok (.astore_n 1, 1) := by decide +kernel
theorem dL_law_8 : decode cL_law 8 = .ok (.new 10, 3) := by decide +kernel
theorem dL_law_11 : decode cL_law 11 = .ok (.dup, 1) := by decide +kernel
theorem dL_law_12 : decode cL_law 12 = .ok (.invokespecial 12, 3) := by decide +kernel
theorem dL_law_15 : decode cL_law 15 = .ok (.astore_n 2, 1) := by decide +kernel
theorem dL_law_16 : decode cL_law 16 = .ok (.iconst 0, 1) := by decide +kernel
theorem dL_law_17 : decode cL_law 17 = .ok (.istore_n 3, 1) := by decide +kernel
theorem dL_law_18 : decode cL_law 18 = .ok (.iload_n 3, 1) := by decide +kernel
theorem dL_law_19 : decode cL_law 19 = .ok (.aload_n 0, 1) := by decide +kernel
theorem dL_law_20 : decode cL_law 20 = .ok (.arraylength, 1) := by decide +kernel
theorem dL_law_21 : decode cL_law 21 = .ok (.bipush 6, 2) := by decide +kernel
theorem dL_law_23 : decode cL_law 23 = .ok (.isub, 1) := by decide +kernel
theorem dL_law_24 : decode cL_law 24 = .ok (.if_icmp .gt 1260, 3) := by decide +kernel
theorem dL_law_27 : decode cL_law 27 = .ok (.aload_n 0, 1) := by decide +kernel
theorem dL_law_28 : decode cL_law 28 = .ok (.iload_n 3, 1) := by decide +kernel
theorem dL_law_29 : decode cL_law 29 = .ok (.iaload, 1) := by decide +kernel
theorem dL_law_30 : decode cL_law 30 = .ok (.bipush 31, 2) := by decide +kernel
theorem dL_law_32 : decode cL_law 32 = .ok (.iand, 1) := by decide +kernel
theorem dL_law_33 : decode cL_law 33 = .ok (.tableswitch 1245 0 30 #[139, 192, 225, 278, 311, 354, 387, 420, 473, 536, 549, 572, 605, 639, 672, 685, 738, 791, 824, 857, 881, 904, 938, 961, 974, 987, 1010, 1053, 1096, 1159, 1212], 139) := by decide +kernel
theorem dL_law_172 : decode cL_law 172 = .ok (.aload_n 1, 1) := by decide +kernel
theorem dL_law_173 : decode cL_law 173 = .ok (.aload_n 0, 1) := by decide +kernel
theorem dL_law_174 : decode cL_law 174 = .ok (.iload_n 3, 1) := by decide +kernel
theorem dL_law_175 : decode cL_law 175 = .ok (.iconst 1, 1) := by decide +kernel
theorem dL_law_176 : decode cL_law 176 = .ok (.iadd, 1) := by decide +kernel
theorem dL_law_177 : decode cL_law 177 = .ok (.iaload, 1) := by decide +kernel
theorem dL_law_178 : decode cL_law 178 = .ok (.aload_n 0, 1) := by decide +kernel
theorem dL_law_179 : decode cL_law 179 = .ok (.iload_n 3, 1) := by decide +kernel
theorem dL_law_180 : decode cL_law 180 = .ok (.iconst 2, 1) := by decide +kernel
theorem dL_law_181 : decode cL_law 181 = .ok (.iadd, 1) := by decide +kernel
theorem dL_law_182 : decode cL_law 182 = .ok (.iaload, 1) := by decide +kernel
theorem dL_law_183 : decode cL_law 183 = .ok (.aload_n 0, 1) := by decide +kernel
theorem dL_law_184 : decode cL_law 184 = .ok (.iload_n 3, 1) := by decide +kernel
theorem dL_law_185 : decode cL_law 185 = .ok (.iconst 3, 1) := by decide +kernel
theorem dL_law_186 : decode cL_law 186 = .ok (.iadd, 1) := by decide +kernel
theorem dL_law_187 : decode cL_law 187 = .ok (.iaload, 1) := by decide +kernel
theorem dL_law_188 : decode cL_law 188 = .ok (.aload_n 0, 1) := by decide +kernel
theorem dL_law_189 : decode cL_law 189 = .ok (.iload_n 3, 1) := by decide +kernel
theorem dL_law_190 : decode cL_law 190 = .ok (.iconst 4, 1) := by decide +kernel
theorem dL_law_191 : decode cL_law 191 = .ok (.iadd, 1) := by decide +kernel
theorem dL_law_192 : decode cL_law 192 = .ok (.iaload, 1) := by decide +kernel
theorem dL_law_193 : decode cL_law 193 = .ok (.invokevirtual 13, 3) := by decide +kernel
theorem dL_law_196 : decode cL_law 196 = .ok (.aload_n 2, 1) := by decide +kernel
theorem dL_law_197 : decode cL_law 197 = .ok (.aload_n 0, 1) := by decide +kernel
theorem dL_law_198 : decode cL_law 198 = .ok (.iload_n 3, 1) := by decide +kernel
theorem dL_law_199 : decode cL_law 199 = .ok (.iconst 1, 1) := by decide +kernel
theorem dL_law_200 : decode cL_law 200 = .ok (.iadd, 1) := by decide +kernel
theorem dL_law_201 : decode cL_law 201 = .ok (.iaload, 1) := by decide +kernel
theorem dL_law_202 : decode cL_law 202 = .ok (.aload_n 0, 1) := by decide +kernel
theorem dL_law_203 : decode cL_law 203 = .ok (.iload_n 3, 1) := by decide +kernel
theorem dL_law_204 : decode cL_law 204 = .ok (.iconst 2, 1) := by decide +kernel
theorem dL_law_205 : decode cL_law 205 = .ok (.iadd, 1) := by decide +kernel
theorem dL_law_206 : decode cL_law 206 = .ok (.iaload, 1) := by decide +kernel
theorem dL_law_207 : decode cL_law 207 = .ok (.aload_n 0, 1) := by decide +kernel
theorem dL_law_208 : decode cL_law 208 = .ok (.iload_n 3, 1) := by decide +kernel
theorem dL_law_209 : decode cL_law 209 = .ok (.iconst 3, 1) := by decide +kernel
theorem dL_law_210 : decode cL_law 210 = .ok (.iadd, 1) := by decide +kernel
theorem dL_law_211 : decode cL_law 211 = .ok (.iaload, 1) := by decide +kernel
theorem dL_law_212 : decode cL_law 212 = .ok (.aload_n 0, 1) := by decide +kernel
theorem dL_law_213 : decode cL_law 213 = .ok (.iload_n 3, 1) := by decide +kernel
theorem dL_law_214 : decode cL_law 214 = .ok (.iconst 4, 1) := by decide +kernel
theorem dL_law_215 : decode cL_law 215 = .ok (.iadd, 1) := by decide +kernel
theorem dL_law_216 : decode cL_law 216 = .ok (.iaload, 1) := by decide +kernel
theorem dL_law_217 : decode cL_law 217 = .ok (.invokevirtual 17, 3) := by decide +kernel
theorem dL_law_220 : decode cL_law 220 = .ok (.if_icmp .eq 1058, 3) := by decide +kernel
theorem dL_law_223 : decode cL_law 223 = .ok (.iconst 0, 1) := by decide +kernel
theorem dL_law_224 : decode cL_law 224 = .ok (.ireturn, 1) := by decide +kernel
theorem dL_law_225 : decode cL_law 225 = .ok (.aload_n 1, 1) := by decide +kernel
theorem dL_law_226 : decode cL_law 226 = .ok (.aload_n 0, 1) := by decide +kernel
theorem dL_law_227 : decode cL_law 227 = .ok (.iload_n 3, 1) := by decide +kernel
theorem dL_law_228 : decode cL_law 228 = .ok (.iconst 1, 1) := by decide +kernel
theorem dL_law_229 : decode cL_law 229 = .ok (.iadd, 1) := by decide +kernel
theorem dL_law_230 : decode cL_law 230 = .ok (.iaload, 1) := by decide +kernel
theorem dL_law_231 : decode cL_law 231 = .ok (.aload_n 0, 1) := by decide +kernel
theorem dL_law_232 : decode cL_law 232 = .ok (.iload_n 3, 1) := by decide +kernel
theorem dL_law_233 : decode cL_law 233 = .ok (.iconst 2, 1) := by decide +kernel
theorem dL_law_234 : decode cL_law 234 = .ok (.iadd, 1) := by decide +kernel
theorem dL_law_235 : decode cL_law 235 = .ok (.iaload, 1) := by decide +kernel
theorem dL_law_236 : decode cL_law 236 = .ok (.invokevirtual 18, 3) := by decide +kernel
theorem dL_law_239 : decode cL_law 239 = .ok (.aload_n 2, 1) := by decide +kernel
theorem dL_law_240 : decode cL_law 240 = .ok (.aload_n 0, 1) := by decide +kernel
theorem dL_law_241 : decode cL_law 241 = .ok (.iload_n 3, 1) := by decide +kernel
theorem dL_law_242 : decode cL_law 242 = .ok (.iconst 1, 1) := by decide +kernel
theorem dL_law_243 : decode cL_law 243 = .ok (.iadd, 1) := by decide +kernel
theorem dL_law_244 : decode cL_law 244 = .ok (.iaload, 1) := by decide +kernel
theorem dL_law_245 : decode cL_law 245 = .ok (.aload_n 0, 1) := by decide +kernel
theorem dL_law_246 : decode cL_law 246 = .ok (.iload_n 3, 1) := by decide +kernel
theorem dL_law_247 : decode cL_law 247 = .ok (.iconst 2, 1) := by decide +kernel
theorem dL_law_248 : decode cL_law 248 = .ok (.iadd, 1) := by decide +kernel
theorem dL_law_249 : decode cL_law 249 = .ok (.iaload, 1) := by decide +kernel
theorem dL_law_250 : decode cL_law 250 = .ok (.invokevirtual 22, 3) := by decide +kernel
theorem dL_law_253 : decode cL_law 253 = .ok (.if_icmp .eq 1025, 3) := by decide +kernel
theorem dL_law_256 : decode cL_law 256 = .ok (.iconst 0, 1) := by decide +kernel
theorem dL_law_257 : decode cL_law 257 = .ok (.ireturn, 1) := by decide +kernel
theorem dL_law_258 : decode cL_law 258 = .ok (.aload_n 1, 1) := by decide +kernel
theorem dL_law_259 : decode cL_law 259 = .ok (.aload_n 0, 1) := by decide +kernel
theorem dL_law_260 : decode cL_law 260 = .ok (.iload_n 3, 1) := by decide +kernel
theorem dL_law_261 : decode cL_law 261 = .ok (.iconst 1, 1) := by decide +kernel
theorem dL_law_262 : decode cL_law 262 = .ok (.iadd, 1) := by decide +kernel
theorem dL_law_263 : decode cL_law 263 = .ok (.iaload, 1) := by decide +kernel
theorem dL_law_264 : decode cL_law 264 = .ok (.aload_n 0, 1) := by decide +kernel
theorem dL_law_265 : decode cL_law 265 = .ok (.iload_n 3, 1) := by decide +kernel
theorem dL_law_266 : decode cL_law 266 = .ok (.iconst 2, 1) := by decide +kernel
theorem dL_law_267 : decode cL_law 267 = .ok (.iadd, 1) := by decide +kernel
theorem dL_law_268 : decode cL_law 268 = .ok (.iaload, 1) := by decide +kernel
theorem dL_law_269 : decode cL_law 269 = .ok (.aload_n 0, 1) := by decide +kernel
theorem dL_law_270 : decode cL_law 270 = .ok (.iload_n 3, 1) := by decide +kernel
theorem dL_law_271 : decode cL_law 271 = .ok (.iconst 3, 1) := by decide +kernel
theorem dL_law_272 : decode cL_law 272 = .ok (.iadd, 1) := by decide +kernel
theorem dL_law_273 : decode cL_law 273 = .ok (.iaload, 1) := by decide +kernel
theorem dL_law_274 : decode cL_law 274 = .ok (.aload_n 0, 1) := by decide +kernel
theorem dL_law_275 : decode cL_law 275 = .ok (.iload_n 3, 1) := by decide +kernel
theorem dL_law_276 : decode cL_law 276 = .ok (.iconst 4, 1) := by decide +kernel
theorem dL_law_277 : decode cL_law 277 = .ok (.iadd, 1) := by decide +kernel
theorem dL_law_278 : decode cL_law 278 = .ok (.iaload, 1) := by decide +kernel
theorem dL_law_279 : decode cL_law 279 = .ok (.invokevirtual 23, 3) := by decide +kernel
theorem dL_law_282 : decode cL_law 282 = .ok (.aload_n 2, 1) := by decide +kernel
theorem dL_law_283 : decode cL_law 283 = .ok (.aload_n 0, 1) := by decide +kernel
theorem dL_law_284 : decode cL_law 284 = .ok (.iload_n 3, 1) := by decide +kernel
theorem dL_law_285 : decode cL_law 285 = .ok (.iconst 1, 1) := by decide +kernel
theorem dL_law_286 : decode cL_law 286 = .ok (.iadd, 1) := by decide +kernel
theorem dL_law_287 : decode cL_law 287 = .ok (.iaload, 1) := by decide +kernel
theorem dL_law_288 : decode cL_law 288 = .ok (.aload_n 0, 1) := by decide +kernel
theorem dL_law_289 : decode cL_law 289 = .ok (.iload_n 3, 1) := by decide +kernel
theorem dL_law_290 : decode cL_law 290 = .ok (.iconst 2, 1) := by decide +kernel
theorem dL_law_291 : decode cL_law 291 = .ok (.iadd, 1) := by decide +kernel
theorem dL_law_292 : decode cL_law 292 = .ok (.iaload, 1) := by decide +kernel
theorem dL_law_293 : decode cL_law 293 = .ok (.aload_n 0, 1) := by decide +kernel
theorem dL_law_294 : decode cL_law 294 = .ok (.iload_n 3, 1) := by decide +kernel
theorem dL_law_295 : decode cL_law 295 = .ok (.iconst 3, 1) := by decide +kernel
theorem dL_law_296 : decode cL_law 296 = .ok (.iadd, 1) := by decide +kernel
theorem dL_law_297 : decode cL_law 297 = .ok (.iaload, 1) := by decide +kernel
theorem dL_law_298 : decode cL_law 298 = .ok (.aload_n 0, 1) := by decide +kernel
theorem dL_law_299 : decode cL_law 299 = .ok (.iload_n 3, 1) := by decide +kernel
theorem dL_law_300 : decode cL_law 300 = .ok (.iconst 4, 1) := by decide +kernel
theorem dL_law_301 : decode cL_law 301 = .ok (.iadd, 1) := by decide +kernel
theorem dL_law_302 : decode cL_law 302 = .ok (.iaload, 1) := by decide +kernel
theorem dL_law_303 : decode cL_law 303 = .ok (.invokevirtual 26, 3) := by decide +kernel
theorem dL_law_306 : decode cL_law 306 = .ok (.if_icmp .eq 972, 3) := by decide +kernel
theorem dL_law_309 : decode cL_law 309 = .ok (.iconst 0, 1) := by decide +kernel
theorem dL_law_310 : decode cL_law 310 = .ok (.ireturn, 1) := by decide +kernel
theorem dL_law_311 : decode cL_law 311 = .ok (.aload_n 1, 1) := by decide +kernel
theorem dL_law_312 : decode cL_law 312 = .ok (.aload_n 0, 1) := by decide +kernel
theorem dL_law_313 : decode cL_law 313 = .ok (.iload_n 3, 1) := by decide +kernel
theorem dL_law_314 : decode cL_law 314 = .ok (.iconst 1, 1) := by decide +kernel
theorem dL_law_315 : decode cL_law 315 = .ok (.iadd, 1) := by decide +kernel
theorem dL_law_316 : decode cL_law 316 = .ok (.iaload, 1) := by decide +kernel
theorem dL_law_317 : decode cL_law 317 = .ok (.aload_n 0, 1) := by decide +kernel
theorem dL_law_318 : decode cL_law 318 = .ok (.iload_n 3, 1) := by decide +kernel
theorem dL_law_319 : decode cL_law 319 = .ok (.iconst 2, 1) := by decide +kernel
theorem dL_law_320 : decode cL_law 320 = .ok (.iadd, 1) := by decide +kernel
theorem dL_law_321 : decode cL_law 321 = .ok (.iaload, 1) := by decide +kernel
theorem dL_law_322 : decode cL_law 322 = .ok (.invokevirtual 27, 3) := by decide +kernel
theorem dL_law_325 : decode cL_law 325 = .ok (.aload_n 2, 1) := by decide +kernel
theorem dL_law_326 : decode cL_law 326 = .ok (.aload_n 0, 1) := by decide +kernel
theorem dL_law_327 : decode cL_law 327 = .ok (.iload_n 3, 1) := by decide +kernel
theorem dL_law_328 : decode cL_law 328 = .ok (.iconst 1, 1) := by decide +kernel
theorem dL_law_329 : decode cL_law 329 = .ok (.iadd, 1) := by decide +kernel
theorem dL_law_330 : decode cL_law 330 = .ok (.iaload, 1) := by decide +kernel
theorem dL_law_331 : decode cL_law 331 = .ok (.aload_n 0, 1) := by decide +kernel
theorem dL_law_332 : decode cL_law 332 = .ok (.iload_n 3, 1) := by decide +kernel
theorem dL_law_333 : decode cL_law 333 = .ok (.iconst 2, 1) := by decide +kernel
theorem dL_law_334 : decode cL_law 334 = .ok (.iadd, 1) := by decide +kernel
theorem dL_law_335 : decode cL_law 335 = .ok (.iaload, 1) := by decide +kernel
theorem dL_law_336 : decode cL_law 336 = .ok (.invokevirtual 30, 3) := by decide +kernel
theorem dL_law_339 : decode cL_law 339 = .ok (.if_icmp .eq 939, 3) := by decide +kernel
theorem dL_law_342 : decode cL_law 342 = .ok (.iconst 0, 1) := by decide +kernel
theorem dL_law_343 : decode cL_law 343 = .ok (.ireturn, 1) := by decide +kernel
theorem dL_law_344 : decode cL_law 344 = .ok (.aload_n 1, 1) := by decide +kernel
theorem dL_law_345 : decode cL_law 345 = .ok (.aload_n 0, 1) := by decide +kernel
theorem dL_law_346 : decode cL_law 346 = .ok (.iload_n 3, 1) := by decide +kernel
theorem dL_law_347 : decode cL_law 347 = .ok (.iconst 1, 1) := by decide +kernel
theorem dL_law_348 : decode cL_law 348 = .ok (.iadd, 1) := by decide +kernel
theorem dL_law_349 : decode cL_law 349 = .ok (.iaload, 1) := by decide +kernel
theorem dL_law_350 : decode cL_law 350 = .ok (.aload_n 0, 1) := by decide +kernel
theorem dL_law_351 : decode cL_law 351 = .ok (.iload_n 3, 1) := by decide +kernel
theorem dL_law_352 : decode cL_law 352 = .ok (.iconst 2, 1) := by decide +kernel
theorem dL_law_353 : decode cL_law 353 = .ok (.iadd, 1) := by decide +kernel
theorem dL_law_354 : decode cL_law 354 = .ok (.iaload, 1) := by decide +kernel
theorem dL_law_355 : decode cL_law 355 = .ok (.aload_n 0, 1) := by decide +kernel
theorem dL_law_356 : decode cL_law 356 = .ok (.iload_n 3, 1) := by decide +kernel
theorem dL_law_357 : decode cL_law 357 = .ok (.iconst 3, 1) := by decide +kernel
theorem dL_law_358 : decode cL_law 358 = .ok (.iadd, 1) := by decide +kernel
theorem dL_law_359 : decode cL_law 359 = .ok (.iaload, 1) := by decide +kernel
theorem dL_law_360 : decode cL_law 360 = .ok (.invokevirtual 31, 3) := by decide +kernel
theorem dL_law_363 : decode cL_law 363 = .ok (.aload_n 2, 1) := by decide +kernel
theorem dL_law_364 : decode cL_law 364 = .ok (.aload_n 0, 1) := by decide +kernel
theorem dL_law_365 : decode cL_law 365 = .ok (.iload_n 3, 1) := by decide +kernel
theorem dL_law_366 : decode cL_law 366 = .ok (.iconst 1, 1) := by decide +kernel
theorem dL_law_367 : decode cL_law 367 = .ok (.iadd, 1) := by decide +kernel
theorem dL_law_368 : decode cL_law 368 = .ok (.iaload, 1) := by decide +kernel
theorem dL_law_369 : decode cL_law 369 = .ok (.aload_n 0, 1) := by decide +kernel
theorem dL_law_370 : decode cL_law 370 = .ok (.iload_n 3, 1) := by decide +kernel
theorem dL_law_371 : decode cL_law 371 = .ok (.iconst 2, 1) := by decide +kernel
theorem dL_law_372 : decode cL_law 372 = .ok (.iadd, 1) := by decide +kernel
theorem dL_law_373 : decode cL_law 373 = .ok (.iaload, 1) := by decide +kernel
theorem dL_law_374 : decode cL_law 374 = .ok (.aload_n 0, 1) := by decide +kernel
theorem dL_law_375 : decode cL_law 375 = .ok (.iload_n 3, 1) := by decide +kernel
theorem dL_law_376 : decode cL_law 376 = .ok (.iconst 3, 1) := by decide +kernel
theorem dL_law_377 : decode cL_law 377 = .ok (.iadd, 1) := by decide +kernel
theorem dL_law_378 : decode cL_law 378 = .ok (.iaload, 1) := by decide +kernel
theorem dL_law_379 : decode cL_law 379 = .ok (.invokevirtual 35, 3) := by decide +kernel
theorem dL_law_382 : decode cL_law 382 = .ok (.if_icmp .eq 896, 3) := by decide +kernel
theorem dL_law_385 : decode cL_law 385 = .ok (.iconst 0, 1) := by decide +kernel
theorem dL_law_386 : decode cL_law 386 = .ok (.ireturn, 1) := by decide +kernel
theorem dL_law_387 : decode cL_law 387 = .ok (.aload_n 1, 1) := by decide +kernel
theorem dL_law_388 : decode cL_law 388 = .ok (.aload_n 0, 1) := by decide +kernel
theorem dL_law_389 : decode cL_law 389 = .ok (.iload_n 3, 1) := by decide +kernel
theorem dL_law_390 : decode cL_law 390 = .ok (.iconst 1, 1) := by decide +kernel
theorem dL_law_391 : decode cL_law 391 = .ok (.iadd, 1) := by decide +kernel
theorem dL_law_392 : decode cL_law 392 = .ok (.iaload, 1) := by decide +kernel
theorem dL_law_393 : decode cL_law 393 = .ok (.aload_n 0, 1) := by decide +kernel
theorem dL_law_394 : decode cL_law 394 = .ok (.iload_n 3, 1) := by decide +kernel
theorem dL_law_395 : decode cL_law 395 = .ok (.iconst 2, 1) := by decide +kernel
theorem dL_law_396 : decode cL_law 396 = .ok (.iadd, 1) := by decide +kernel
theorem dL_law_397 : decode cL_law 397 = .ok (.iaload, 1) := by decide +kernel
theorem dL_law_398 : decode cL_law 398 = .ok (.invokevirtual 36, 3) := by decide +kernel
theorem dL_law_401 : decode cL_law 401 = .ok (.aload_n 2, 1) := by decide +kernel
theorem dL_law_402 : decode cL_law 402 = .ok (.aload_n 0, 1) := by decide +kernel
theorem dL_law_403 : decode cL_law 403 = .ok (.iload_n 3, 1) := by decide +kernel
theorem dL_law_404 : decode cL_law 404 = .ok (.iconst 1, 1) := by decide +kernel
theorem dL_law_405 : decode cL_law 405 = .ok (.iadd, 1) := by decide +kernel
theorem dL_law_406 : decode cL_law 406 = .ok (.iaload, 1) := by decide +kernel
theorem dL_law_407 : decode cL_law 407 = .ok (.aload_n 0, 1) := by decide +kernel
theorem dL_law_408 : decode cL_law 408 = .ok (.iload_n 3, 1) := by decide +kernel
theorem dL_law_409 : decode cL_law 409 = .ok (.iconst 2, 1) := by decide +kernel
theorem dL_law_410 : decode cL_law 410 = .ok (.iadd, 1) := by decide +kernel
theorem dL_law_411 : decode cL_law 411 = .ok (.iaload, 1) := by decide +kernel
theorem dL_law_412 : decode cL_law 412 = .ok (.invokevirtual 39, 3) := by decide +kernel
theorem dL_law_415 : decode cL_law 415 = .ok (.if_icmp .eq 863, 3) := by decide +kernel
theorem dL_law_418 : decode cL_law 418 = .ok (.iconst 0, 1) := by decide +kernel
theorem dL_law_419 : decode cL_law 419 = .ok (.ireturn, 1) := by decide +kernel
theorem dL_law_420 : decode cL_law 420 = .ok (.aload_n 1, 1) := by decide +kernel
theorem dL_law_421 : decode cL_law 421 = .ok (.aload_n 0, 1) := by decide +kernel
theorem dL_law_422 : decode cL_law 422 = .ok (.iload_n 3, 1) := by decide +kernel
theorem dL_law_423 : decode cL_law 423 = .ok (.iconst 1, 1) := by decide +kernel
theorem dL_law_424 : decode cL_law 424 = .ok (.iadd, 1) := by decide +kernel
theorem dL_law_425 : decode cL_law 425 = .ok (.iaload, 1) := by decide +kernel
theorem dL_law_426 : decode cL_law 426 = .ok (.aload_n 0, 1) := by decide +kernel
theorem dL_law_427 : decode cL_law 427 = .ok (.iload_n 3, 1) := by decide +kernel
theorem dL_law_428 : decode cL_law 428 = .ok (.iconst 2, 1) := by decide +kernel
theorem dL_law_429 : decode cL_law 429 = .ok (.iadd, 1) := by decide +kernel
theorem dL_law_430 : decode cL_law 430 = .ok (.iaload, 1) := by decide +kernel
theorem dL_law_431 : decode cL_law 431 = .ok (.invokevirtual 40, 3) := by decide +kernel
theorem dL_law_434 : decode cL_law 434 = .ok (.aload_n 2, 1) := by decide +kernel
theorem dL_law_435 : decode cL_law 435 = .ok (.aload_n 0, 1) := by decide +kernel
theorem dL_law_436 : decode cL_law 436 = .ok (.iload_n 3, 1) := by decide +kernel
theorem dL_law_437 : decode cL_law 437 = .ok (.iconst 1, 1) := by decide +kernel
theorem dL_law_438 : decode cL_law 438 = .ok (.iadd, 1) := by decide +kernel
theorem dL_law_439 : decode cL_law 439 = .ok (.iaload, 1) := by decide +kernel
theorem dL_law_440 : decode cL_law 440 = .ok (.aload_n 0, 1) := by decide +kernel
theorem dL_law_441 : decode cL_law 441 = .ok (.iload_n 3, 1) := by decide +kernel
theorem dL_law_442 : decode cL_law 442 = .ok (.iconst 2, 1) := by decide +kernel
theorem dL_law_443 : decode cL_law 443 = .ok (.iadd, 1) := by decide +kernel
theorem dL_law_444 : decode cL_law 444 = .ok (.iaload, 1) := by decide +kernel
theorem dL_law_445 : decode cL_law 445 = .ok (.invokevirtual 43, 3) := by decide +kernel
theorem dL_law_448 : decode cL_law 448 = .ok (.if_icmp .eq 830, 3) := by decide +kernel
theorem dL_law_451 : decode cL_law 451 = .ok (.iconst 0, 1) := by decide +kernel
theorem dL_law_452 : decode cL_law 452 = .ok (.ireturn, 1) := by decide +kernel
theorem dL_law_453 : decode cL_law 453 = .ok (.aload_n 1, 1) := by decide +kernel
theorem dL_law_454 : decode cL_law 454 = .ok (.aload_n 0, 1) := by decide +kernel
theorem dL_law_455 : decode cL_law 455 = .ok (.iload_n 3, 1) := by decide +kernel
theorem dL_law_456 : decode cL_law 456 = .ok (.iconst 1, 1) := by decide +kernel
theorem dL_law_457 : decode cL_law 457 = .ok (.iadd, 1) := by decide +kernel
theorem dL_law_458 : decode cL_law 458 = .ok (.iaload, 1) := by decide +kernel
theorem dL_law_459 : decode cL_law 459 = .ok (.aload_n 0, 1) := by decide +kernel
theorem dL_law_460 : decode cL_law 460 = .ok (.iload_n 3, 1) := by decide +kernel
theorem dL_law_461 : decode cL_law 461 = .ok (.iconst 2, 1) := by decide +kernel
theorem dL_law_462 : decode cL_law 462 = .ok (.iadd, 1) := by decide +kernel
theorem dL_law_463 : decode cL_law 463 = .ok (.iaload, 1) := by decide +kernel
theorem dL_law_464 : decode cL_law 464 = .ok (.aload_n 0, 1) := by decide +kernel
theorem dL_law_465 : decode cL_law 465 = .ok (.iload_n 3, 1) := by decide +kernel
theorem dL_law_466 : decode cL_law 466 = .ok (.iconst 3, 1) := by decide +kernel
theorem dL_law_467 : decode cL_law 467 = .ok (.iadd, 1) := by decide +kernel
theorem dL_law_468 : decode cL_law 468 = .ok (.iaload, 1) := by decide +kernel
theorem dL_law_469 : decode cL_law 469 = .ok (.aload_n 0, 1) := by decide +kernel
theorem dL_law_470 : decode cL_law 470 = .ok (.iload_n 3, 1) := by decide +kernel
theorem dL_law_471 : decode cL_law 471 = .ok (.iconst 4, 1) := by decide +kernel
theorem dL_law_472 : decode cL_law 472 = .ok (.iadd, 1) := by decide +kernel
theorem dL_law_473 : decode cL_law 473 = .ok (.iaload, 1) := by decide +kernel
theorem dL_law_474 : decode cL_law 474 = .ok (.invokevirtual 44, 3) := by decide +kernel
theorem dL_law_477 : decode cL_law 477 = .ok (.aload_n 2, 1) := by decide +kernel
theorem dL_law_478 : decode cL_law 478 = .ok (.aload_n 0, 1) := by decide +kernel
theorem dL_law_479 : decode cL_law 479 = .ok (.iload_n 3, 1) := by decide +kernel
theorem dL_law_480 : decode cL_law 480 = .ok (.iconst 1, 1) := by decide +kernel
theorem dL_law_481 : decode cL_law 481 = .ok (.iadd, 1) := by decide +kernel
theorem dL_law_482 : decode cL_law 482 = .ok (.iaload, 1) := by decide +kernel
end
section
theorem dL_law_483 : decode cL_law 483 = .ok (.aload_n 0, 1) := by decide +kernel
theorem dL_law_484 : decode cL_law 484 = .ok (.iload_n 3, 1) := by decide +kernel
theorem dL_law_485 : decode cL_law 485 = .ok (.iconst 2, 1) := by decide +kernel
theorem dL_law_486 : decode cL_law 486 = .ok (.iadd, 1) := by decide +kernel
theorem dL_law_487 : decode cL_law 487 = .ok (.iaload, 1) := by decide +kernel
theorem dL_law_488 : decode cL_law 488 = .ok (.aload_n 0, 1) := by decide +kernel
theorem dL_law_489 : decode cL_law 489 = .ok (.iload_n 3, 1) := by decide +kernel
theorem dL_law_490 : decode cL_law 490 = .ok (.iconst 3, 1) := by decide +kernel
theorem dL_law_491 : decode cL_law 491 = .ok (.iadd, 1) := by decide +kernel
theorem dL_law_492 : decode cL_law 492 = .ok (.iaload, 1) := by decide +kernel
theorem dL_law_493 : decode cL_law 493 = .ok (.aload_n 0, 1) := by decide +kernel
theorem dL_law_494 : decode cL_law 494 = .ok (.iload_n 3, 1) := by decide +kernel
theorem dL_law_495 : decode cL_law 495 = .ok (.iconst 4, 1) := by decide +kernel
theorem dL_law_496 : decode cL_law 496 = .ok (.iadd, 1) := by decide +kernel
theorem dL_law_497 : decode cL_law 497 = .ok (.iaload, 1) := by decide +kernel
theorem dL_law_498 : decode cL_law 498 = .ok (.invokevirtual 47, 3) := by decide +kernel
theorem dL_law_501 : decode cL_law 501 = .ok (.if_icmp .eq 777, 3) := by decide +kernel
theorem dL_law_504 : decode cL_law 504 = .ok (.iconst 0, 1) := by decide +kernel
theorem dL_law_505 : decode cL_law 505 = .ok (.ireturn, 1) := by decide +kernel
theorem dL_law_506 : decode cL_law 506 = .ok (.aload_n 1, 1) := by decide +kernel
theorem dL_law_507 : decode cL_law 507 = .ok (.aload_n 0, 1) := by decide +kernel
theorem dL_law_508 : decode cL_law 508 = .ok (.iload_n 3, 1) := by decide +kernel
theorem dL_law_509 : decode cL_law 509 = .ok (.iconst 1, 1) := by decide +kernel
theorem dL_law_510 : decode cL_law 510 = .ok (.iadd, 1) := by decide +kernel
theorem dL_law_511 : decode cL_law 511 = .ok (.iaload, 1) := by decide +kernel
theorem dL_law_512 : decode cL_law 512 = .ok (.aload_n 0, 1) := by decide +kernel
theorem dL_law_513 : decode cL_law 513 = .ok (.iload_n 3, 1) := by decide +kernel
theorem dL_law_514 : decode cL_law 514 = .ok (.iconst 2, 1) := by decide +kernel
theorem dL_law_515 : decode cL_law 515 = .ok (.iadd, 1) := by decide +kernel
theorem dL_law_516 : decode cL_law 516 = .ok (.iaload, 1) := by decide +kernel
theorem dL_law_517 : decode cL_law 517 = .ok (.i2l, 1) := by decide +kernel
theorem dL_law_518 : decode cL_law 518 = .ok (.bipush 32, 2) := by decide +kernel
theorem dL_law_520 : decode cL_law 520 = .ok (.lshl, 1) := by decide +kernel
theorem dL_law_521 : decode cL_law 521 = .ok (.aload_n 0, 1) := by decide +kernel
theorem dL_law_522 : decode cL_law 522 = .ok (.iload_n 3, 1) := by decide +kernel
theorem dL_law_523 : decode cL_law 523 = .ok (.iconst 3, 1) := by decide +kernel
theorem dL_law_524 : decode cL_law 524 = .ok (.iadd, 1) := by decide +kernel
theorem dL_law_525 : decode cL_law 525 = .ok (.iaload, 1) := by decide +kernel
theorem dL_law_526 : decode cL_law 526 = .ok (.i2l, 1) := by decide +kernel
theorem dL_law_527 : decode cL_law 527 = .ok (.ldc2_w 48, 3) := by decide +kernel
theorem dL_law_530 : decode cL_law 530 = .ok (.land, 1) := by decide +kernel
theorem dL_law_531 : decode cL_law 531 = .ok (.lor, 1) := by decide +kernel
theorem dL_law_532 : decode cL_law 532 = .ok (.invokevirtual 50, 3) := by decide +kernel
theorem dL_law_535 : decode cL_law 535 = .ok (.aload_n 2, 1) := by decide +kernel
theorem dL_law_536 : decode cL_law 536 = .ok (.aload_n 0, 1) := by decide +kernel
theorem dL_law_537 : decode cL_law 537 = .ok (.iload_n 3, 1) := by decide +kernel
theorem dL_law_538 : decode cL_law 538 = .ok (.iconst 1, 1) := by decide +kernel
theorem dL_law_539 : decode cL_law 539 = .ok (.iadd, 1) := by decide +kernel
theorem dL_law_540 : decode cL_law 540 = .ok (.iaload, 1) := by decide +kernel
theorem dL_law_541 : decode cL_law 541 = .ok (.aload_n 0, 1) := by decide +kernel
theorem dL_law_542 : decode cL_law 542 = .ok (.iload_n 3, 1) := by decide +kernel
theorem dL_law_543 : decode cL_law 543 = .ok (.iconst 2, 1) := by decide +kernel
theorem dL_law_544 : decode cL_law 544 = .ok (.iadd, 1) := by decide +kernel
theorem dL_law_545 : decode cL_law 545 = .ok (.iaload, 1) := by decide +kernel
theorem dL_law_546 : decode cL_law 546 = .ok (.i2l, 1) := by decide +kernel
theorem dL_law_547 : decode cL_law 547 = .ok (.bipush 32, 2) := by decide +kernel
theorem dL_law_549 : decode cL_law 549 = .ok (.lshl, 1) := by decide +kernel
theorem dL_law_550 : decode cL_law 550 = .ok (.aload_n 0, 1) := by decide +kernel
theorem dL_law_551 : decode cL_law 551 = .ok (.iload_n 3, 1) := by decide +kernel
theorem dL_law_552 : decode cL_law 552 = .ok (.iconst 3, 1) := by decide +kernel
theorem dL_law_553 : decode cL_law 553 = .ok (.iadd, 1) := by decide +kernel
theorem dL_law_554 : decode cL_law 554 = .ok (.iaload, 1) := by decide +kernel
theorem dL_law_555 : decode cL_law 555 = .ok (.i2l, 1) := by decide +kernel
theorem dL_law_556 : decode cL_law 556 = .ok (.ldc2_w 48, 3) := by decide +kernel
theorem dL_law_559 : decode cL_law 559 = .ok (.land, 1) := by decide +kernel
theorem dL_law_560 : decode cL_law 560 = .ok (.lor, 1) := by decide +kernel
theorem dL_law_561 : decode cL_law 561 = .ok (.invokevirtual 54, 3) := by decide +kernel
theorem dL_law_564 : decode cL_law 564 = .ok (.if_icmp .eq 714, 3) := by decide +kernel
theorem dL_law_567 : decode cL_law 567 = .ok (.iconst 0, 1) := by decide +kernel
theorem dL_law_568 : decode cL_law 568 = .ok (.ireturn, 1) := by decide +kernel
theorem dL_law_569 : decode cL_law 569 = .ok (.aload_n 1, 1) := by decide +kernel
theorem dL_law_570 : decode cL_law 570 = .ok (.invokevirtual 55, 3) := by decide +kernel
theorem dL_law_573 : decode cL_law 573 = .ok (.aload_n 2, 1) := by decide +kernel
theorem dL_law_574 : decode cL_law 574 = .ok (.invokevirtual 59, 3) := by decide +kernel
theorem dL_law_577 : decode cL_law 577 = .ok (.if_icmp .eq 701, 3) := by decide +kernel
theorem dL_law_580 : decode cL_law 580 = .ok (.iconst 0, 1) := by decide +kernel
theorem dL_law_581 : decode cL_law 581 = .ok (.ireturn, 1) := by decide +kernel
theorem dL_law_582 : decode cL_law 582 = .ok (.aload_n 1, 1) := by decide +kernel
theorem dL_law_583 : decode cL_law 583 = .ok (.aload_n 0, 1) := by decide +kernel
theorem dL_law_584 : decode cL_law 584 = .ok (.iload_n 3, 1) := by decide +kernel
theorem dL_law_585 : decode cL_law 585 = .ok (.iconst 1, 1) := by decide +kernel
theorem dL_law_586 : decode cL_law 586 = .ok (.iadd, 1) := by decide +kernel
theorem dL_law_587 : decode cL_law 587 = .ok (.iaload, 1) := by decide +kernel
theorem dL_law_588 : decode cL_law 588 = .ok (.invokevirtual 60, 3) := by decide +kernel
theorem dL_law_591 : decode cL_law 591 = .ok (.aload_n 2, 1) := by decide +kernel
theorem dL_law_592 : decode cL_law 592 = .ok (.aload_n 0, 1) := by decide +kernel
theorem dL_law_593 : decode cL_law 593 = .ok (.iload_n 3, 1) := by decide +kernel
theorem dL_law_594 : decode cL_law 594 = .ok (.iconst 1, 1) := by decide +kernel
theorem dL_law_595 : decode cL_law 595 = .ok (.iadd, 1) := by decide +kernel
theorem dL_law_596 : decode cL_law 596 = .ok (.iaload, 1) := by decide +kernel
theorem dL_law_597 : decode cL_law 597 = .ok (.invokevirtual 64, 3) := by decide +kernel
theorem dL_law_600 : decode cL_law 600 = .ok (.if_icmp .eq 678, 3) := by decide +kernel
theorem dL_law_603 : decode cL_law 603 = .ok (.iconst 0, 1) := by decide +kernel
theorem dL_law_604 : decode cL_law 604 = .ok (.ireturn, 1) := by decide +kernel
theorem dL_law_605 : decode cL_law 605 = .ok (.aload_n 1, 1) := by decide +kernel
theorem dL_law_606 : decode cL_law 606 = .ok (.aload_n 0, 1) := by decide +kernel
theorem dL_law_607 : decode cL_law 607 = .ok (.iload_n 3, 1) := by decide +kernel
theorem dL_law_608 : decode cL_law 608 = .ok (.iconst 1, 1) := by decide +kernel
theorem dL_law_609 : decode cL_law 609 = .ok (.iadd, 1) := by decide +kernel
theorem dL_law_610 : decode cL_law 610 = .ok (.iaload, 1) := by decide +kernel
theorem dL_law_611 : decode cL_law 611 = .ok (.aload_n 0, 1) := by decide +kernel
theorem dL_law_612 : decode cL_law 612 = .ok (.iload_n 3, 1) := by decide +kernel
theorem dL_law_613 : decode cL_law 613 = .ok (.iconst 2, 1) := by decide +kernel
theorem dL_law_614 : decode cL_law 614 = .ok (.iadd, 1) := by decide +kernel
theorem dL_law_615 : decode cL_law 615 = .ok (.iaload, 1) := by decide +kernel
theorem dL_law_616 : decode cL_law 616 = .ok (.invokevirtual 65, 3) := by decide +kernel
theorem dL_law_619 : decode cL_law 619 = .ok (.aload_n 2, 1) := by decide +kernel
theorem dL_law_620 : decode cL_law 620 = .ok (.aload_n 0, 1) := by decide +kernel
theorem dL_law_621 : decode cL_law 621 = .ok (.iload_n 3, 1) := by decide +kernel
theorem dL_law_622 : decode cL_law 622 = .ok (.iconst 1, 1) := by decide +kernel
theorem dL_law_623 : decode cL_law 623 = .ok (.iadd, 1) := by decide +kernel
theorem dL_law_624 : decode cL_law 624 = .ok (.iaload, 1) := by decide +kernel
theorem dL_law_625 : decode cL_law 625 = .ok (.aload_n 0, 1) := by decide +kernel
theorem dL_law_626 : decode cL_law 626 = .ok (.iload_n 3, 1) := by decide +kernel
theorem dL_law_627 : decode cL_law 627 = .ok (.iconst 2, 1) := by decide +kernel
theorem dL_law_628 : decode cL_law 628 = .ok (.iadd, 1) := by decide +kernel
theorem dL_law_629 : decode cL_law 629 = .ok (.iaload, 1) := by decide +kernel
theorem dL_law_630 : decode cL_law 630 = .ok (.invokevirtual 68, 3) := by decide +kernel
theorem dL_law_633 : decode cL_law 633 = .ok (.if_icmp .eq 645, 3) := by decide +kernel
theorem dL_law_636 : decode cL_law 636 = .ok (.iconst 0, 1) := by decide +kernel
theorem dL_law_637 : decode cL_law 637 = .ok (.ireturn, 1) := by decide +kernel
theorem dL_law_638 : decode cL_law 638 = .ok (.aload_n 1, 1) := by decide +kernel
theorem dL_law_639 : decode cL_law 639 = .ok (.aload_n 0, 1) := by decide +kernel
theorem dL_law_640 : decode cL_law 640 = .ok (.iload_n 3, 1) := by decide +kernel
theorem dL_law_641 : decode cL_law 641 = .ok (.iconst 1, 1) := by decide +kernel
theorem dL_law_642 : decode cL_law 642 = .ok (.iadd, 1) := by decide +kernel
theorem dL_law_643 : decode cL_law 643 = .ok (.iaload, 1) := by decide +kernel
theorem dL_law_644 : decode cL_law 644 = .ok (.aload_n 0, 1) := by decide +kernel
theorem dL_law_645 : decode cL_law 645 = .ok (.iload_n 3, 1) := by decide +kernel
theorem dL_law_646 : decode cL_law 646 = .ok (.iconst 2, 1) := by decide +kernel
theorem dL_law_647 : decode cL_law 647 = .ok (.iadd, 1) := by decide +kernel
theorem dL_law_648 : decode cL_law 648 = .ok (.iaload, 1) := by decide +kernel
theorem dL_law_649 : decode cL_law 649 = .ok (.invokevirtual 69, 3) := by decide +kernel
theorem dL_law_652 : decode cL_law 652 = .ok (.aload_n 2, 1) := by decide +kernel
theorem dL_law_653 : decode cL_law 653 = .ok (.aload_n 0, 1) := by decide +kernel
theorem dL_law_654 : decode cL_law 654 = .ok (.iload_n 3, 1) := by decide +kernel
theorem dL_law_655 : decode cL_law 655 = .ok (.iconst 1, 1) := by decide +kernel
theorem dL_law_656 : decode cL_law 656 = .ok (.iadd, 1) := by decide +kernel
theorem dL_law_657 : decode cL_law 657 = .ok (.iaload, 1) := by decide +kernel
theorem dL_law_658 : decode cL_law 658 = .ok (.aload_n 0, 1) := by decide +kernel
theorem dL_law_659 : decode cL_law 659 = .ok (.iload_n 3, 1) := by decide +kernel
theorem dL_law_660 : decode cL_law 660 = .ok (.iconst 2, 1) := by decide +kernel
theorem dL_law_661 : decode cL_law 661 = .ok (.iadd, 1) := by decide +kernel
theorem dL_law_662 : decode cL_law 662 = .ok (.iaload, 1) := by decide +kernel
theorem dL_law_663 : decode cL_law 663 = .ok (.invokevirtual 73, 3) := by decide +kernel
theorem dL_law_666 : decode cL_law 666 = .ok (.lcmp, 1) := by decide +kernel
theorem dL_law_667 : decode cL_law 667 = .ok (.ifCond .eq 611, 3) := by decide +kernel
theorem dL_law_670 : decode cL_law 670 = .ok (.iconst 0, 1) := by decide +kernel
theorem dL_law_671 : decode cL_law 671 = .ok (.ireturn, 1) := by decide +kernel
theorem dL_law_672 : decode cL_law 672 = .ok (.aload_n 1, 1) := by decide +kernel
theorem dL_law_673 : decode cL_law 673 = .ok (.aload_n 0, 1) := by decide +kernel
theorem dL_law_674 : decode cL_law 674 = .ok (.iload_n 3, 1) := by decide +kernel
theorem dL_law_675 : decode cL_law 675 = .ok (.iconst 1, 1) := by decide +kernel
theorem dL_law_676 : decode cL_law 676 = .ok (.iadd, 1) := by decide +kernel
theorem dL_law_677 : decode cL_law 677 = .ok (.iaload, 1) := by decide +kernel
theorem dL_law_678 : decode cL_law 678 = .ok (.aload_n 0, 1) := by decide +kernel
theorem dL_law_679 : decode cL_law 679 = .ok (.iload_n 3, 1) := by decide +kernel
theorem dL_law_680 : decode cL_law 680 = .ok (.iconst 2, 1) := by decide +kernel
theorem dL_law_681 : decode cL_law 681 = .ok (.iadd, 1) := by decide +kernel
theorem dL_law_682 : decode cL_law 682 = .ok (.iaload, 1) := by decide +kernel
theorem dL_law_683 : decode cL_law 683 = .ok (.invokevirtual 74, 3) := by decide +kernel
theorem dL_law_686 : decode cL_law 686 = .ok (.aload_n 2, 1) := by decide +kernel
theorem dL_law_687 : decode cL_law 687 = .ok (.aload_n 0, 1) := by decide +kernel
theorem dL_law_688 : decode cL_law 688 = .ok (.iload_n 3, 1) := by decide +kernel
theorem dL_law_689 : decode cL_law 689 = .ok (.iconst 1, 1) := by decide +kernel
theorem dL_law_690 : decode cL_law 690 = .ok (.iadd, 1) := by decide +kernel
theorem dL_law_691 : decode cL_law 691 = .ok (.iaload, 1) := by decide +kernel
theorem dL_law_692 : decode cL_law 692 = .ok (.aload_n 0, 1) := by decide +kernel
theorem dL_law_693 : decode cL_law 693 = .ok (.iload_n 3, 1) := by decide +kernel
theorem dL_law_694 : decode cL_law 694 = .ok (.iconst 2, 1) := by decide +kernel
theorem dL_law_695 : decode cL_law 695 = .ok (.iadd, 1) := by decide +kernel
theorem dL_law_696 : decode cL_law 696 = .ok (.iaload, 1) := by decide +kernel
theorem dL_law_697 : decode cL_law 697 = .ok (.invokevirtual 77, 3) := by decide +kernel
theorem dL_law_700 : decode cL_law 700 = .ok (.if_icmp .eq 578, 3) := by decide +kernel
theorem dL_law_703 : decode cL_law 703 = .ok (.iconst 0, 1) := by decide +kernel
theorem dL_law_704 : decode cL_law 704 = .ok (.ireturn, 1) := by decide +kernel
theorem dL_law_705 : decode cL_law 705 = .ok (.aload_n 1, 1) := by decide +kernel
theorem dL_law_706 : decode cL_law 706 = .ok (.invokevirtual 78, 3) := by decide +kernel
theorem dL_law_709 : decode cL_law 709 = .ok (.aload_n 2, 1) := by decide +kernel
theorem dL_law_710 : decode cL_law 710 = .ok (.invokevirtual 81, 3) := by decide +kernel
theorem dL_law_713 : decode cL_law 713 = .ok (.if_icmp .eq 565, 3) := by decide +kernel
theorem dL_law_716 : decode cL_law 716 = .ok (.iconst 0, 1) := by decide +kernel
theorem dL_law_717 : decode cL_law 717 = .ok (.ireturn, 1) := by decide +kernel
theorem dL_law_718 : decode cL_law 718 = .ok (.aload_n 1, 1) := by decide +kernel
theorem dL_law_719 : decode cL_law 719 = .ok (.aload_n 0, 1) := by decide +kernel
theorem dL_law_720 : decode cL_law 720 = .ok (.iload_n 3, 1) := by decide +kernel
theorem dL_law_721 : decode cL_law 721 = .ok (.iconst 1, 1) := by decide +kernel
theorem dL_law_722 : decode cL_law 722 = .ok (.iadd, 1) := by decide +kernel
theorem dL_law_723 : decode cL_law 723 = .ok (.iaload, 1) := by decide +kernel
theorem dL_law_724 : decode cL_law 724 = .ok (.aload_n 0, 1) := by decide +kernel
theorem dL_law_725 : decode cL_law 725 = .ok (.iload_n 3, 1) := by decide +kernel
theorem dL_law_726 : decode cL_law 726 = .ok (.iconst 2, 1) := by decide +kernel
theorem dL_law_727 : decode cL_law 727 = .ok (.iadd, 1) := by decide +kernel
theorem dL_law_728 : decode cL_law 728 = .ok (.iaload, 1) := by decide +kernel
theorem dL_law_729 : decode cL_law 729 = .ok (.aload_n 0, 1) := by decide +kernel
theorem dL_law_730 : decode cL_law 730 = .ok (.iload_n 3, 1) := by decide +kernel
theorem dL_law_731 : decode cL_law 731 = .ok (.iconst 3, 1) := by decide +kernel
theorem dL_law_732 : decode cL_law 732 = .ok (.iadd, 1) := by decide +kernel
theorem dL_law_733 : decode cL_law 733 = .ok (.iaload, 1) := by decide +kernel
theorem dL_law_734 : decode cL_law 734 = .ok (.aload_n 0, 1) := by decide +kernel
theorem dL_law_735 : decode cL_law 735 = .ok (.iload_n 3, 1) := by decide +kernel
theorem dL_law_736 : decode cL_law 736 = .ok (.iconst 4, 1) := by decide +kernel
theorem dL_law_737 : decode cL_law 737 = .ok (.iadd, 1) := by decide +kernel
theorem dL_law_738 : decode cL_law 738 = .ok (.iaload, 1) := by decide +kernel
theorem dL_law_739 : decode cL_law 739 = .ok (.invokevirtual 82, 3) := by decide +kernel
theorem dL_law_742 : decode cL_law 742 = .ok (.aload_n 2, 1) := by decide +kernel
theorem dL_law_743 : decode cL_law 743 = .ok (.aload_n 0, 1) := by decide +kernel
theorem dL_law_744 : decode cL_law 744 = .ok (.iload_n 3, 1) := by decide +kernel
theorem dL_law_745 : decode cL_law 745 = .ok (.iconst 1, 1) := by decide +kernel
theorem dL_law_746 : decode cL_law 746 = .ok (.iadd, 1) := by decide +kernel
theorem dL_law_747 : decode cL_law 747 = .ok (.iaload, 1) := by decide +kernel
theorem dL_law_748 : decode cL_law 748 = .ok (.aload_n 0, 1) := by decide +kernel
theorem dL_law_749 : decode cL_law 749 = .ok (.iload_n 3, 1) := by decide +kernel
theorem dL_law_750 : decode cL_law 750 = .ok (.iconst 2, 1) := by decide +kernel
theorem dL_law_751 : decode cL_law 751 = .ok (.iadd, 1) := by decide +kernel
theorem dL_law_752 : decode cL_law 752 = .ok (.iaload, 1) := by decide +kernel
theorem dL_law_753 : decode cL_law 753 = .ok (.aload_n 0, 1) := by decide +kernel
theorem dL_law_754 : decode cL_law 754 = .ok (.iload_n 3, 1) := by decide +kernel
theorem dL_law_755 : decode cL_law 755 = .ok (.iconst 3, 1) := by decide +kernel
theorem dL_law_756 : decode cL_law 756 = .ok (.iadd, 1) := by decide +kernel
theorem dL_law_757 : decode cL_law 757 = .ok (.iaload, 1) := by decide +kernel
theorem dL_law_758 : decode cL_law 758 = .ok (.aload_n 0, 1) := by decide +kernel
theorem dL_law_759 : decode cL_law 759 = .ok (.iload_n 3, 1) := by decide +kernel
theorem dL_law_760 : decode cL_law 760 = .ok (.iconst 4, 1) := by decide +kernel
theorem dL_law_761 : decode cL_law 761 = .ok (.iadd, 1) := by decide +kernel
theorem dL_law_762 : decode cL_law 762 = .ok (.iaload, 1) := by decide +kernel
theorem dL_law_763 : decode cL_law 763 = .ok (.invokevirtual 85, 3) := by decide +kernel
theorem dL_law_766 : decode cL_law 766 = .ok (.if_icmp .eq 512, 3) := by decide +kernel
theorem dL_law_769 : decode cL_law 769 = .ok (.iconst 0, 1) := by decide +kernel
theorem dL_law_770 : decode cL_law 770 = .ok (.ireturn, 1) := by decide +kernel
theorem dL_law_771 : decode cL_law 771 = .ok (.aload_n 1, 1) := by decide +kernel
theorem dL_law_772 : decode cL_law 772 = .ok (.aload_n 0, 1) := by decide +kernel
theorem dL_law_773 : decode cL_law 773 = .ok (.iload_n 3, 1) := by decide +kernel
theorem dL_law_774 : decode cL_law 774 = .ok (.iconst 1, 1) := by decide +kernel
theorem dL_law_775 : decode cL_law 775 = .ok (.iadd, 1) := by decide +kernel
theorem dL_law_776 : decode cL_law 776 = .ok (.iaload, 1) := by decide +kernel
theorem dL_law_777 : decode cL_law 777 = .ok (.aload_n 0, 1) := by decide +kernel
theorem dL_law_778 : decode cL_law 778 = .ok (.iload_n 3, 1) := by decide +kernel
theorem dL_law_779 : decode cL_law 779 = .ok (.iconst 2, 1) := by decide +kernel
theorem dL_law_780 : decode cL_law 780 = .ok (.iadd, 1) := by decide +kernel
theorem dL_law_781 : decode cL_law 781 = .ok (.iaload, 1) := by decide +kernel
theorem dL_law_782 : decode cL_law 782 = .ok (.aload_n 0, 1) := by decide +kernel
theorem dL_law_783 : decode cL_law 783 = .ok (.iload_n 3, 1) := by decide +kernel
theorem dL_law_784 : decode cL_law 784 = .ok (.iconst 3, 1) := by decide +kernel
theorem dL_law_785 : decode cL_law 785 = .ok (.iadd, 1) := by decide +kernel
theorem dL_law_786 : decode cL_law 786 = .ok (.iaload, 1) := by decide +kernel
theorem dL_law_787 : decode cL_law 787 = .ok (.aload_n 0, 1) := by decide +kernel
theorem dL_law_788 : decode cL_law 788 = .ok (.iload_n 3, 1) := by decide +kernel
theorem dL_law_789 : decode cL_law 789 = .ok (.iconst 4, 1) := by decide +kernel
theorem dL_law_790 : decode cL_law 790 = .ok (.iadd, 1) := by decide +kernel
theorem dL_law_791 : decode cL_law 791 = .ok (.iaload, 1) := by decide +kernel
theorem dL_law_792 : decode cL_law 792 = .ok (.invokevirtual 86, 3) := by decide +kernel
theorem dL_law_795 : decode cL_law 795 = .ok (.aload_n 2, 1) := by decide +kernel
theorem dL_law_796 : decode cL_law 796 = .ok (.aload_n 0, 1) := by decide +kernel
theorem dL_law_797 : decode cL_law 797 = .ok (.iload_n 3, 1) := by decide +kernel
theorem dL_law_798 : decode cL_law 798 = .ok (.iconst 1, 1) := by decide +kernel
theorem dL_law_799 : decode cL_law 799 = .ok (.iadd, 1) := by decide +kernel
theorem dL_law_800 : decode cL_law 800 = .ok (.iaload, 1) := by decide +kernel
theorem dL_law_801 : decode cL_law 801 = .ok (.aload_n 0, 1) := by decide +kernel
theorem dL_law_802 : decode cL_law 802 = .ok (.iload_n 3, 1) := by decide +kernel
theorem dL_law_803 : decode cL_law 803 = .ok (.iconst 2, 1) := by decide +kernel
theorem dL_law_804 : decode cL_law 804 = .ok (.iadd, 1) := by decide +kernel
theorem dL_law_805 : decode cL_law 805 = .ok (.iaload, 1) := by decide +kernel
theorem dL_law_806 : decode cL_law 806 = .ok (.aload_n 0, 1) := by decide +kernel
theorem dL_law_807 : decode cL_law 807 = .ok (.iload_n 3, 1) := by decide +kernel
theorem dL_law_808 : decode cL_law 808 = .ok (.iconst 3, 1) := by decide +kernel
theorem dL_law_809 : decode cL_law 809 = .ok (.iadd, 1) := by decide +kernel
theorem dL_law_810 : decode cL_law 810 = .ok (.iaload, 1) := by decide +kernel
theorem dL_law_811 : decode cL_law 811 = .ok (.aload_n 0, 1) := by decide +kernel
theorem dL_law_812 : decode cL_law 812 = .ok (.iload_n 3, 1) := by decide +kernel
theorem dL_law_813 : decode cL_law 813 = .ok (.iconst 4, 1) := by decide +kernel
theorem dL_law_814 : decode cL_law 814 = .ok (.iadd, 1) := by decide +kernel
theorem dL_law_815 : decode cL_law 815 = .ok (.iaload, 1) := by decide +kernel
theorem dL_law_816 : decode cL_law 816 = .ok (.invokevirtual 89, 3) := by decide +kernel
theorem dL_law_819 : decode cL_law 819 = .ok (.if_icmp .eq 459, 3) := by decide +kernel
theorem dL_law_822 : decode cL_law 822 = .ok (.iconst 0, 1) := by decide +kernel
theorem dL_law_823 : decode cL_law 823 = .ok (.ireturn, 1) := by decide +kernel
theorem dL_law_824 : decode cL_law 824 = .ok (.aload_n 1, 1) := by decide +kernel
theorem dL_law_825 : decode cL_law 825 = .ok (.aload_n 0, 1) := by decide +kernel
theorem dL_law_826 : decode cL_law 826 = .ok (.iload_n 3, 1) := by decide +kernel
theorem dL_law_827 : decode cL_law 827 = .ok (.iconst 1, 1) := by decide +kernel
theorem dL_law_828 : decode cL_law 828 = .ok (.iadd, 1) := by decide +kernel
theorem dL_law_829 : decode cL_law 829 = .ok (.iaload, 1) := by decide +kernel
theorem dL_law_830 : decode cL_law 830 = .ok (.aload_n 0, 1) := by decide +kernel
theorem dL_law_831 : decode cL_law 831 = .ok (.iload_n 3, 1) := by decide +kernel
theorem dL_law_832 : decode cL_law 832 = .ok (.iconst 2, 1) := by decide +kernel
theorem dL_law_833 : decode cL_law 833 = .ok (.iadd, 1) := by decide +kernel
theorem dL_law_834 : decode cL_law 834 = .ok (.iaload, 1) := by decide +kernel
theorem dL_law_835 : decode cL_law 835 = .ok (.invokevirtual 90, 3) := by decide +kernel
theorem dL_law_838 : decode cL_law 838 = .ok (.aload_n 2, 1) := by decide +kernel
theorem dL_law_839 : decode cL_law 839 = .ok (.aload_n 0, 1) := by decide +kernel
theorem dL_law_840 : decode cL_law 840 = .ok (.iload_n 3, 1) := by decide +kernel
theorem dL_law_841 : decode cL_law 841 = .ok (.iconst 1, 1) := by decide +kernel
theorem dL_law_842 : decode cL_law 842 = .ok (.iadd, 1) := by decide +kernel
theorem dL_law_843 : decode cL_law 843 = .ok (.iaload, 1) := by decide +kernel
theorem dL_law_844 : decode cL_law 844 = .ok (.aload_n 0, 1) := by decide +kernel
theorem dL_law_845 : decode cL_law 845 = .ok (.iload_n 3, 1) := by decide +kernel
theorem dL_law_846 : decode cL_law 846 = .ok (.iconst 2, 1) := by decide +kernel
theorem dL_law_847 : decode cL_law 847 = .ok (.iadd, 1) := by decide +kernel
theorem dL_law_848 : decode cL_law 848 = .ok (.iaload, 1) := by decide +kernel
theorem dL_law_849 : decode cL_law 849 = .ok (.invokevirtual 93, 3) := by decide +kernel
theorem dL_law_852 : decode cL_law 852 = .ok (.if_icmp .eq 426, 3) := by decide +kernel
theorem dL_law_855 : decode cL_law 855 = .ok (.iconst 0, 1) := by decide +kernel
theorem dL_law_856 : decode cL_law 856 = .ok (.ireturn, 1) := by decide +kernel
theorem dL_law_857 : decode cL_law 857 = .ok (.aload_n 1, 1) := by decide +kernel
theorem dL_law_858 : decode cL_law 858 = .ok (.aload_n 0, 1) := by decide +kernel
theorem dL_law_859 : decode cL_law 859 = .ok (.iload_n 3, 1) := by decide +kernel
theorem dL_law_860 : decode cL_law 860 = .ok (.iconst 1, 1) := by decide +kernel
theorem dL_law_861 : decode cL_law 861 = .ok (.iadd, 1) := by decide +kernel
theorem dL_law_862 : decode cL_law 862 = .ok (.iaload, 1) := by decide +kernel
theorem dL_law_863 : decode cL_law 863 = .ok (.aload_n 0, 1) := by decide +kernel
theorem dL_law_864 : decode cL_law 864 = .ok (.iload_n 3, 1) := by decide +kernel
theorem dL_law_865 : decode cL_law 865 = .ok (.iconst 2, 1) := by decide +kernel
theorem dL_law_866 : decode cL_law 866 = .ok (.iadd, 1) := by decide +kernel
theorem dL_law_867 : decode cL_law 867 = .ok (.iaload, 1) := by decide +kernel
theorem dL_law_868 : decode cL_law 868 = .ok (.invokevirtual 94, 3) := by decide +kernel
theorem dL_law_871 : decode cL_law 871 = .ok (.aload_n 2, 1) := by decide +kernel
theorem dL_law_872 : decode cL_law 872 = .ok (.aload_n 0, 1) := by decide +kernel
theorem dL_law_873 : decode cL_law 873 = .ok (.iload_n 3, 1) := by decide +kernel
theorem dL_law_874 : decode cL_law 874 = .ok (.iconst 1, 1) := by decide +kernel
theorem dL_law_875 : decode cL_law 875 = .ok (.iadd, 1) := by decide +kernel
theorem dL_law_876 : decode cL_law 876 = .ok (.iaload, 1) := by decide +kernel
theorem dL_law_877 : decode cL_law 877 = .ok (.aload_n 0, 1) := by decide +kernel
theorem dL_law_878 : decode cL_law 878 = .ok (.iload_n 3, 1) := by decide +kernel
theorem dL_law_879 : decode cL_law 879 = .ok (.iconst 2, 1) := by decide +kernel
theorem dL_law_880 : decode cL_law 880 = .ok (.iadd, 1) := by decide +kernel
theorem dL_law_881 : decode cL_law 881 = .ok (.iaload, 1) := by decide +kernel
theorem dL_law_882 : decode cL_law 882 = .ok (.invokevirtual 97, 3) := by decide +kernel
theorem dL_law_885 : decode cL_law 885 = .ok (.if_icmp .eq 393, 3) := by decide +kernel
theorem dL_law_888 : decode cL_law 888 = .ok (.iconst 0, 1) := by decide +kernel
theorem dL_law_889 : decode cL_law 889 = .ok (.ireturn, 1) := by decide +kernel
theorem dL_law_890 : decode cL_law 890 = .ok (.aload_n 1, 1) := by decide +kernel
theorem dL_law_891 : decode cL_law 891 = .ok (.aload_n 0, 1) := by decide +kernel
theorem dL_law_892 : decode cL_law 892 = .ok (.iload_n 3, 1) := by decide +kernel
theorem dL_law_893 : decode cL_law 893 = .ok (.iconst 1, 1) := by decide +kernel
theorem dL_law_894 : decode cL_law 894 = .ok (.iadd, 1) := by decide +kernel
theorem dL_law_895 : decode cL_law 895 = .ok (.iaload, 1) := by decide +kernel
theorem dL_law_896 : decode cL_law 896 = .ok (.invokevirtual 98, 3) := by decide +kernel
theorem dL_law_899 : decode cL_law 899 = .ok (.aload_n 2, 1) := by decide +kernel
theorem dL_law_900 : decode cL_law 900 = .ok (.aload_n 0, 1) := by decide +kernel
theorem dL_law_901 : decode cL_law 901 = .ok (.iload_n 3, 1) := by decide +kernel
theorem dL_law_902 : decode cL_law 902 = .ok (.iconst 1, 1) := by decide +kernel
theorem dL_law_903 : decode cL_law 903 = .ok (.iadd, 1) := by decide +kernel
theorem dL_law_904 : decode cL_law 904 = .ok (.iaload, 1) := by decide +kernel
theorem dL_law_905 : decode cL_law 905 = .ok (.invokevirtual 102, 3) := by decide +kernel
theorem dL_law_908 : decode cL_law 908 = .ok (.lcmp, 1) := by decide +kernel
theorem dL_law_909 : decode cL_law 909 = .ok (.ifCond .eq 369, 3) := by decide +kernel
theorem dL_law_912 : decode cL_law 912 = .ok (.iconst 0, 1) := by decide +kernel
theorem dL_law_913 : decode cL_law 913 = .ok (.ireturn, 1) := by decide +kernel
theorem dL_law_914 : decode cL_law 914 = .ok (.aload_n 1, 1) := by decide +kernel
theorem dL_law_915 : decode cL_law 915 = .ok (.aload_n 0, 1) := by decide +kernel
theorem dL_law_916 : decode cL_law 916 = .ok (.iload_n 3, 1) := by decide +kernel
theorem dL_law_917 : decode cL_law 917 = .ok (.iconst 1, 1) := by decide +kernel
theorem dL_law_918 : decode cL_law 918 = .ok (.iadd, 1) := by decide +kernel
theorem dL_law_919 : decode cL_law 919 = .ok (.iaload, 1) := by decide +kernel
theorem dL_law_920 : decode cL_law 920 = .ok (.invokevirtual 103, 3) := by decide +kernel
theorem dL_law_923 : decode cL_law 923 = .ok (.aload_n 2, 1) := by decide +kernel
theorem dL_law_924 : decode cL_law 924 = .ok (.aload_n 0, 1) := by decide +kernel
theorem dL_law_925 : decode cL_law 925 = .ok (.iload_n 3, 1) := by decide +kernel
theorem dL_law_926 : decode cL_law 926 = .ok (.iconst 1, 1) := by decide +kernel
theorem dL_law_927 : decode cL_law 927 = .ok (.iadd, 1) := by decide +kernel
theorem dL_law_928 : decode cL_law 928 = .ok (.iaload, 1) := by decide +kernel
theorem dL_law_929 : decode cL_law 929 = .ok (.invokevirtual 106, 3) := by decide +kernel
theorem dL_law_932 : decode cL_law 932 = .ok (.if_icmp .eq 346, 3) := by decide +kernel
theorem dL_law_935 : decode cL_law 935 = .ok (.iconst 0, 1) := by decide +kernel
theorem dL_law_936 : decode cL_law 936 = .ok (.ireturn, 1) := by decide +kernel
theorem dL_law_937 : decode cL_law 937 = .ok (.aload_n 1, 1) := by decide +kernel
theorem dL_law_938 : decode cL_law 938 = .ok (.aload_n 0, 1) := by decide +kernel
theorem dL_law_939 : decode cL_law 939 = .ok (.iload_n 3, 1) := by decide +kernel
theorem dL_law_940 : decode cL_law 940 = .ok (.iconst 1, 1) := by decide +kernel
theorem dL_law_941 : decode cL_law 941 = .ok (.iadd, 1) := by decide +kernel
theorem dL_law_942 : decode cL_law 942 = .ok (.iaload, 1) := by decide +kernel
theorem dL_law_943 : decode cL_law 943 = .ok (.aload_n 0, 1) := by decide +kernel
theorem dL_law_944 : decode cL_law 944 = .ok (.iload_n 3, 1) := by decide +kernel
theorem dL_law_945 : decode cL_law 945 = .ok (.iconst 2, 1) := by decide +kernel
theorem dL_law_946 : decode cL_law 946 = .ok (.iadd, 1) := by decide +kernel
theorem dL_law_947 : decode cL_law 947 = .ok (.iaload, 1) := by decide +kernel
theorem dL_law_948 : decode cL_law 948 = .ok (.invokevirtual 107, 3) := by decide +kernel
theorem dL_law_951 : decode cL_law 951 = .ok (.aload_n 2, 1) := by decide +kernel
theorem dL_law_952 : decode cL_law 952 = .ok (.aload_n 0, 1) := by decide +kernel
theorem dL_law_953 : decode cL_law 953 = .ok (.iload_n 3, 1) := by decide +kernel
theorem dL_law_954 : decode cL_law 954 = .ok (.iconst 1, 1) := by decide +kernel
theorem dL_law_955 : decode cL_law 955 = .ok (.iadd, 1) := by decide +kernel
theorem dL_law_956 : decode cL_law 956 = .ok (.iaload, 1) := by decide +kernel
theorem dL_law_957 : decode cL_law 957 = .ok (.aload_n 0, 1) := by decide +kernel
theorem dL_law_958 : decode cL_law 958 = .ok (.iload_n 3, 1) := by decide +kernel
theorem dL_law_959 : decode cL_law 959 = .ok (.iconst 2, 1) := by decide +kernel
theorem dL_law_960 : decode cL_law 960 = .ok (.iadd, 1) := by decide +kernel
theorem dL_law_961 : decode cL_law 961 = .ok (.iaload, 1) := by decide +kernel
theorem dL_law_962 : decode cL_law 962 = .ok (.invokevirtual 110, 3) := by decide +kernel
theorem dL_law_965 : decode cL_law 965 = .ok (.lcmp, 1) := by decide +kernel
theorem dL_law_966 : decode cL_law 966 = .ok (.ifCond .eq 312, 3) := by decide +kernel
theorem dL_law_969 : decode cL_law 969 = .ok (.iconst 0, 1) := by decide +kernel
theorem dL_law_970 : decode cL_law 970 = .ok (.ireturn, 1) := by decide +kernel
theorem dL_law_971 : decode cL_law 971 = .ok (.aload_n 1, 1) := by decide +kernel
theorem dL_law_972 : decode cL_law 972 = .ok (.aload_n 0, 1) := by decide +kernel
theorem dL_law_973 : decode cL_law 973 = .ok (.iload_n 3, 1) := by decide +kernel
theorem dL_law_974 : decode cL_law 974 = .ok (.iconst 1, 1) := by decide +kernel
theorem dL_law_975 : decode cL_law 975 = .ok (.iadd, 1) := by decide +kernel
theorem dL_law_976 : decode cL_law 976 = .ok (.iaload, 1) := by decide +kernel
theorem dL_law_977 : decode cL_law 977 = .ok (.invokevirtual 111, 3) := by decide +kernel
theorem dL_law_980 : decode cL_law 980 = .ok (.aload_n 2, 1) := by decide +kernel
theorem dL_law_981 : decode cL_law 981 = .ok (.aload_n 0, 1) := by decide +kernel
theorem dL_law_982 : decode cL_law 982 = .ok (.iload_n 3, 1) := by decide +kernel
theorem dL_law_983 : decode cL_law 983 = .ok (.iconst 1, 1) := by decide +kernel
theorem dL_law_984 : decode cL_law 984 = .ok (.iadd, 1) := by decide +kernel
theorem dL_law_985 : decode cL_law 985 = .ok (.iaload, 1) := by decide +kernel
theorem dL_law_986 : decode cL_law 986 = .ok (.invokevirtual 114, 3) := by decide +kernel
theorem dL_law_989 : decode cL_law 989 = .ok (.if_icmp .eq 289, 3) := by decide +kernel
theorem dL_law_992 : decode cL_law 992 = .ok (.iconst 0, 1) := by decide +kernel
theorem dL_law_993 : decode cL_law 993 = .ok (.ireturn, 1) := by decide +kernel
theorem dL_law_994 : decode cL_law 994 = .ok (.aload_n 1, 1) := by decide +kernel
theorem dL_law_995 : decode cL_law 995 = .ok (.invokevirtual 115, 3) := by decide +kernel
theorem dL_law_998 : decode cL_law 998 = .ok (.aload_n 2, 1) := by decide +kernel
theorem dL_law_999 : decode cL_law 999 = .ok (.invokevirtual 118, 3) := by decide +kernel
theorem dL_law_1002 : decode cL_law 1002 = .ok (.if_icmp .eq 276, 3) := by decide +kernel
theorem dL_law_1005 : decode cL_law 1005 = .ok (.iconst 0, 1) := by decide +kernel
theorem dL_law_1006 : decode cL_law 1006 = .ok (.ireturn, 1) := by decide +kernel
theorem dL_law_1007 : decode cL_law 1007 = .ok (.aload_n 1, 1) := by decide +kernel
theorem dL_law_1008 : decode cL_law 1008 = .ok (.invokevirtual 119, 3) := by decide +kernel
theorem dL_law_1011 : decode cL_law 1011 = .ok (.aload_n 2, 1) := by decide +kernel
theorem dL_law_1012 : decode cL_law 1012 = .ok (.invokevirtual 122, 3) := by decide +kernel
theorem dL_law_1015 : decode cL_law 1015 = .ok (.if_icmp .eq 263, 3) := by decide +kernel
theorem dL_law_1018 : decode cL_law 1018 = .ok (.iconst 0, 1) := by decide +kernel
theorem dL_law_1019 : decode cL_law 1019 = .ok (.ireturn, 1) := by decide +kernel
theorem dL_law_1020 : decode cL_law 1020 = .ok (.aload_n 1, 1) := by decide +kernel
theorem dL_law_1021 : decode cL_law 1021 = .ok (.aload_n 0, 1) := by decide +kernel
theorem dL_law_1022 : decode cL_law 1022 = .ok (.iload_n 3, 1) := by decide +kernel
theorem dL_law_1023 : decode cL_law 1023 = .ok (.iconst 1, 1) := by decide +kernel
theorem dL_law_1024 : decode cL_law 1024 = .ok (.iadd, 1) := by decide +kernel
theorem dL_law_1025 : decode cL_law 1025 = .ok (.iaload, 1) := by decide +kernel
theorem dL_law_1026 : decode cL_law 1026 = .ok (.invokevirtual 123, 3) := by decide +kernel
theorem dL_law_1029 : decode cL_law 1029 = .ok (.aload_n 2, 1) := by decide +kernel
theorem dL_law_1030 : decode cL_law 1030 = .ok (.aload_n 0, 1) := by decide +kernel
theorem dL_law_1031 : decode cL_law 1031 = .ok (.iload_n 3, 1) := by decide +kernel
theorem dL_law_1032 : decode cL_law 1032 = .ok (.iconst 1, 1) := by decide +kernel
theorem dL_law_1033 : decode cL_law 1033 = .ok (.iadd, 1) := by decide +kernel
theorem dL_law_1034 : decode cL_law 1034 = .ok (.iaload, 1) := by decide +kernel
theorem dL_law_1035 : decode cL_law 1035 = .ok (.invokevirtual 126, 3) := by decide +kernel
theorem dL_law_1038 : decode cL_law 1038 = .ok (.if_icmp .eq 240, 3) := by decide +kernel
theorem dL_law_1041 : decode cL_law 1041 = .ok (.iconst 0, 1) := by decide +kernel
theorem dL_law_1042 : decode cL_law 1042 = .ok (.ireturn, 1) := by decide +kernel
theorem dL_law_1043 : decode cL_law 1043 = .ok (.aload_n 1, 1) := by decide +kernel
theorem dL_law_1044 : decode cL_law 1044 = .ok (.aload_n 0, 1) := by decide +kernel
theorem dL_law_1045 : decode cL_law 1045 = .ok (.iload_n 3, 1) := by decide +kernel
theorem dL_law_1046 : decode cL_law 1046 = .ok (.iconst 1, 1) := by decide +kernel
theorem dL_law_1047 : decode cL_law 1047 = .ok (.iadd, 1) := by decide +kernel
theorem dL_law_1048 : decode cL_law 1048 = .ok (.iaload, 1) := by decide +kernel
theorem dL_law_1049 : decode cL_law 1049 = .ok (.aload_n 0, 1) := by decide +kernel
theorem dL_law_1050 : decode cL_law 1050 = .ok (.iload_n 3, 1) := by decide +kernel
theorem dL_law_1051 : decode cL_law 1051 = .ok (.iconst 2, 1) := by decide +kernel
theorem dL_law_1052 : decode cL_law 1052 = .ok (.iadd, 1) := by decide +kernel
theorem dL_law_1053 : decode cL_law 1053 = .ok (.iaload, 1) := by decide +kernel
theorem dL_law_1054 : decode cL_law 1054 = .ok (.aload_n 0, 1) := by decide +kernel
theorem dL_law_1055 : decode cL_law 1055 = .ok (.iload_n 3, 1) := by decide +kernel
theorem dL_law_1056 : decode cL_law 1056 = .ok (.iconst 3, 1) := by decide +kernel
theorem dL_law_1057 : decode cL_law 1057 = .ok (.iadd, 1) := by decide +kernel
theorem dL_law_1058 : decode cL_law 1058 = .ok (.iaload, 1) := by decide +kernel
theorem dL_law_1059 : decode cL_law 1059 = .ok (.invokevirtual 127, 3) := by decide +kernel
theorem dL_law_1062 : decode cL_law 1062 = .ok (.aload_n 2, 1) := by decide +kernel
theorem dL_law_1063 : decode cL_law 1063 = .ok (.aload_n 0, 1) := by decide +kernel
theorem dL_law_1064 : decode cL_law 1064 = .ok (.iload_n 3, 1) := by decide +kernel
theorem dL_law_1065 : decode cL_law 1065 = .ok (.iconst 1, 1) := by decide +kernel
theorem dL_law_1066 : decode cL_law 1066 = .ok (.iadd, 1) := by decide +kernel
theorem dL_law_1067 : decode cL_law 1067 = .ok (.iaload, 1) := by decide +kernel
theorem dL_law_1068 : decode cL_law 1068 = .ok (.aload_n 0, 1) := by decide +kernel
theorem dL_law_1069 : decode cL_law 1069 = .ok (.iload_n 3, 1) := by decide +kernel
theorem dL_law_1070 : decode cL_law 1070 = .ok (.iconst 2, 1) := by decide +kernel
theorem dL_law_1071 : decode cL_law 1071 = .ok (.iadd, 1) := by decide +kernel
theorem dL_law_1072 : decode cL_law 1072 = .ok (.iaload, 1) := by decide +kernel
theorem dL_law_1073 : decode cL_law 1073 = .ok (.aload_n 0, 1) := by decide +kernel
theorem dL_law_1074 : decode cL_law 1074 = .ok (.iload_n 3, 1) := by decide +kernel
theorem dL_law_1075 : decode cL_law 1075 = .ok (.iconst 3, 1) := by decide +kernel
theorem dL_law_1076 : decode cL_law 1076 = .ok (.iadd, 1) := by decide +kernel
theorem dL_law_1077 : decode cL_law 1077 = .ok (.iaload, 1) := by decide +kernel
theorem dL_law_1078 : decode cL_law 1078 = .ok (.invokevirtual 130, 3) := by decide +kernel
theorem dL_law_1081 : decode cL_law 1081 = .ok (.if_icmp .eq 197, 3) := by decide +kernel
theorem dL_law_1084 : decode cL_law 1084 = .ok (.iconst 0, 1) := by decide +kernel
theorem dL_law_1085 : decode cL_law 1085 = .ok (.ireturn, 1) := by decide +kernel
theorem dL_law_1086 : decode cL_law 1086 = .ok (.aload_n 1, 1) := by decide +kernel
theorem dL_law_1087 : decode cL_law 1087 = .ok (.aload_n 0, 1) := by decide +kernel
theorem dL_law_1088 : decode cL_law 1088 = .ok (.iload_n 3, 1) := by decide +kernel
theorem dL_law_1089 : decode cL_law 1089 = .ok (.iconst 1, 1) := by decide +kernel
theorem dL_law_1090 : decode cL_law 1090 = .ok (.iadd, 1) := by decide +kernel
theorem dL_law_1091 : decode cL_law 1091 = .ok (.iaload, 1) := by decide +kernel
theorem dL_law_1092 : decode cL_law 1092 = .ok (.aload_n 0, 1) := by decide +kernel
theorem dL_law_1093 : decode cL_law 1093 = .ok (.iload_n 3, 1) := by decide +kernel
theorem dL_law_1094 : decode cL_law 1094 = .ok (.iconst 2, 1) := by decide +kernel
theorem dL_law_1095 : decode cL_law 1095 = .ok (.iadd, 1) := by decide +kernel
theorem dL_law_1096 : decode cL_law 1096 = .ok (.iaload, 1) := by decide +kernel
theorem dL_law_1097 : decode cL_law 1097 = .ok (.aload_n 0, 1) := by decide +kernel
theorem dL_law_1098 : decode cL_law 1098 = .ok (.iload_n 3, 1) := by decide +kernel
theorem dL_law_1099 : decode cL_law 1099 = .ok (.iconst 3, 1) := by decide +kernel
theorem dL_law_1100 : decode cL_law 1100 = .ok (.iadd, 1) := by decide +kernel
theorem dL_law_1101 : decode cL_law 1101 = .ok (.iaload, 1) := by decide +kernel
theorem dL_law_1102 : decode cL_law 1102 = .ok (.invokevirtual 131, 3) := by decide +kernel
theorem dL_law_1105 : decode cL_law 1105 = .ok (.aload_n 2, 1) := by decide +kernel
theorem dL_law_1106 : decode cL_law 1106 = .ok (.aload_n 0, 1) := by decide +kernel
theorem dL_law_1107 : decode cL_law 1107 = .ok (.iload_n 3, 1) := by decide +kernel
theorem dL_law_1108 : decode cL_law 1108 = .ok (.iconst 1, 1) := by decide +kernel
theorem dL_law_1109 : decode cL_law 1109 = .ok (.iadd, 1) := by decide +kernel
theorem dL_law_1110 : decode cL_law 1110 = .ok (.iaload, 1) := by decide +kernel
theorem dL_law_1111 : decode cL_law 1111 = .ok (.aload_n 0, 1) := by decide +kernel
theorem dL_law_1112 : decode cL_law 1112 = .ok (.iload_n 3, 1) := by decide +kernel
theorem dL_law_1113 : decode cL_law 1113 = .ok (.iconst 2, 1) := by decide +kernel
theorem dL_law_1114 : decode cL_law 1114 = .ok (.iadd, 1) := by decide +kernel
theorem dL_law_1115 : decode cL_law 1115 = .ok (.iaload, 1) := by decide +kernel
theorem dL_law_1116 : decode cL_law 1116 = .ok (.aload_n 0, 1) := by decide +kernel
theorem dL_law_1117 : decode cL_law 1117 = .ok (.iload_n 3, 1) := by decide +kernel
theorem dL_law_1118 : decode cL_law 1118 = .ok (.iconst 3, 1) := by decide +kernel
theorem dL_law_1119 : decode cL_law 1119 = .ok (.iadd, 1) := by decide +kernel
theorem dL_law_1120 : decode cL_law 1120 = .ok (.iaload, 1) := by decide +kernel
theorem dL_law_1121 : decode cL_law 1121 = .ok (.invokevirtual 134, 3) := by decide +kernel
theorem dL_law_1124 : decode cL_law 1124 = .ok (.if_icmp .eq 154, 3) := by decide +kernel
theorem dL_law_1127 : decode cL_law 1127 = .ok (.iconst 0, 1) := by decide +kernel
theorem dL_law_1128 : decode cL_law 1128 = .ok (.ireturn, 1) := by decide +kernel
theorem dL_law_1129 : decode cL_law 1129 = .ok (.aload_n 1, 1) := by decide +kernel
theorem dL_law_1130 : decode cL_law 1130 = .ok (.aload_n 0, 1) := by decide +kernel
theorem dL_law_1131 : decode cL_law 1131 = .ok (.iload_n 3, 1) := by decide +kernel
theorem dL_law_1132 : decode cL_law 1132 = .ok (.iconst 1, 1) := by decide +kernel
theorem dL_law_1133 : decode cL_law 1133 = .ok (.iadd, 1) := by decide +kernel
theorem dL_law_1134 : decode cL_law 1134 = .ok (.iaload, 1) := by decide +kernel
theorem dL_law_1135 : decode cL_law 1135 = .ok (.aload_n 0, 1) := by decide +kernel
theorem dL_law_1136 : decode cL_law 1136 = .ok (.iload_n 3, 1) := by decide +kernel
theorem dL_law_1137 : decode cL_law 1137 = .ok (.iconst 2, 1) := by decide +kernel
theorem dL_law_1138 : decode cL_law 1138 = .ok (.iadd, 1) := by decide +kernel
theorem dL_law_1139 : decode cL_law 1139 = .ok (.iaload, 1) := by decide +kernel
theorem dL_law_1140 : decode cL_law 1140 = .ok (.aload_n 0, 1) := by decide +kernel
theorem dL_law_1141 : decode cL_law 1141 = .ok (.iload_n 3, 1) := by decide +kernel
theorem dL_law_1142 : decode cL_law 1142 = .ok (.iconst 3, 1) := by decide +kernel
theorem dL_law_1143 : decode cL_law 1143 = .ok (.iadd, 1) := by decide +kernel
theorem dL_law_1144 : decode cL_law 1144 = .ok (.iaload, 1) := by decide +kernel
theorem dL_law_1145 : decode cL_law 1145 = .ok (.aload_n 0, 1) := by decide +kernel
theorem dL_law_1146 : decode cL_law 1146 = .ok (.iload_n 3, 1) := by decide +kernel
theorem dL_law_1147 : decode cL_law 1147 = .ok (.iconst 4, 1) := by decide +kernel
theorem dL_law_1148 : decode cL_law 1148 = .ok (.iadd, 1) := by decide +kernel
theorem dL_law_1149 : decode cL_law 1149 = .ok (.iaload, 1) := by decide +kernel
theorem dL_law_1150 : decode cL_law 1150 = .ok (.aload_n 0, 1) := by decide +kernel
theorem dL_law_1151 : decode cL_law 1151 = .ok (.iload_n 3, 1) := by decide +kernel
theorem dL_law_1152 : decode cL_law 1152 = .ok (.iconst 5, 1) := by decide +kernel
theorem dL_law_1153 : decode cL_law 1153 = .ok (.iadd, 1) := by decide +kernel
theorem dL_law_1154 : decode cL_law 1154 = .ok (.iaload, 1) := by decide +kernel
theorem dL_law_1155 : decode cL_law 1155 = .ok (.invokevirtual 135, 3) := by decide +kernel
theorem dL_law_1158 : decode cL_law 1158 = .ok (.aload_n 2, 1) := by decide +kernel
theorem dL_law_1159 : decode cL_law 1159 = .ok (.aload_n 0, 1) := by decide +kernel
theorem dL_law_1160 : decode cL_law 1160 = .ok (.iload_n 3, 1) := by decide +kernel
theorem dL_law_1161 : decode cL_law 1161 = .ok (.iconst 1, 1) := by decide +kernel
theorem dL_law_1162 : decode cL_law 1162 = .ok (.iadd, 1) := by decide +kernel
theorem dL_law_1163 : decode cL_law 1163 = .ok (.iaload, 1) := by decide +kernel
theorem dL_law_1164 : decode cL_law 1164 = .ok (.aload_n 0, 1) := by decide +kernel
theorem dL_law_1165 : decode cL_law 1165 = .ok (.iload_n 3, 1) := by decide +kernel
theorem dL_law_1166 : decode cL_law 1166 = .ok (.iconst 2, 1) := by decide +kernel
theorem dL_law_1167 : decode cL_law 1167 = .ok (.iadd, 1) := by decide +kernel
theorem dL_law_1168 : decode cL_law 1168 = .ok (.iaload, 1) := by decide +kernel
theorem dL_law_1169 : decode cL_law 1169 = .ok (.aload_n 0, 1) := by decide +kernel
theorem dL_law_1170 : decode cL_law 1170 = .ok (.iload_n 3, 1) := by decide +kernel
theorem dL_law_1171 : decode cL_law 1171 = .ok (.iconst 3, 1) := by decide +kernel
theorem dL_law_1172 : decode cL_law 1172 = .ok (.iadd, 1) := by decide +kernel
theorem dL_law_1173 : decode cL_law 1173 = .ok (.iaload, 1) := by decide +kernel
theorem dL_law_1174 : decode cL_law 1174 = .ok (.aload_n 0, 1) := by decide +kernel
theorem dL_law_1175 : decode cL_law 1175 = .ok (.iload_n 3, 1) := by decide +kernel
theorem dL_law_1176 : decode cL_law 1176 = .ok (.iconst 4, 1) := by decide +kernel
theorem dL_law_1177 : decode cL_law 1177 = .ok (.iadd, 1) := by decide +kernel
theorem dL_law_1178 : decode cL_law 1178 = .ok (.iaload, 1) := by decide +kernel
theorem dL_law_1179 : decode cL_law 1179 = .ok (.aload_n 0, 1) := by decide +kernel
theorem dL_law_1180 : decode cL_law 1180 = .ok (.iload_n 3, 1) := by decide +kernel
theorem dL_law_1181 : decode cL_law 1181 = .ok (.iconst 5, 1) := by decide +kernel
theorem dL_law_1182 : decode cL_law 1182 = .ok (.iadd, 1) := by decide +kernel
theorem dL_law_1183 : decode cL_law 1183 = .ok (.iaload, 1) := by decide +kernel
theorem dL_law_1184 : decode cL_law 1184 = .ok (.invokevirtual 139, 3) := by decide +kernel
theorem dL_law_1187 : decode cL_law 1187 = .ok (.if_icmp .eq 91, 3) := by decide +kernel
theorem dL_law_1190 : decode cL_law 1190 = .ok (.iconst 0, 1) := by decide +kernel
theorem dL_law_1191 : decode cL_law 1191 = .ok (.ireturn, 1) := by decide +kernel
theorem dL_law_1192 : decode cL_law 1192 = .ok (.aload_n 1, 1) := by decide +kernel
theorem dL_law_1193 : decode cL_law 1193 = .ok (.aload_n 0, 1) := by decide +kernel
theorem dL_law_1194 : decode cL_law 1194 = .ok (.iload_n 3, 1) := by decide +kernel
theorem dL_law_1195 : decode cL_law 1195 = .ok (.iconst 1, 1) := by decide +kernel
theorem dL_law_1196 : decode cL_law 1196 = .ok (.iadd, 1) := by decide +kernel
theorem dL_law_1197 : decode cL_law 1197 = .ok (.iaload, 1) := by decide +kernel
theorem dL_law_1198 : decode cL_law 1198 = .ok (.aload_n 0, 1) := by decide +kernel
theorem dL_law_1199 : decode cL_law 1199 = .ok (.iload_n 3, 1) := by decide +kernel
theorem dL_law_1200 : decode cL_law 1200 = .ok (.iconst 2, 1) := by decide +kernel
theorem dL_law_1201 : decode cL_law 1201 = .ok (.iadd, 1) := by decide +kernel
theorem dL_law_1202 : decode cL_law 1202 = .ok (.iaload, 1) := by decide +kernel
theorem dL_law_1203 : decode cL_law 1203 = .ok (.aload_n 0, 1) := by decide +kernel
theorem dL_law_1204 : decode cL_law 1204 = .ok (.iload_n 3, 1) := by decide +kernel
theorem dL_law_1205 : decode cL_law 1205 = .ok (.iconst 3, 1) := by decide +kernel
theorem dL_law_1206 : decode cL_law 1206 = .ok (.iadd, 1) := by decide +kernel
theorem dL_law_1207 : decode cL_law 1207 = .ok (.iaload, 1) := by decide +kernel
theorem dL_law_1208 : decode cL_law 1208 = .ok (.aload_n 0, 1) := by decide +kernel
theorem dL_law_1209 : decode cL_law 1209 = .ok (.iload_n 3, 1) := by decide +kernel
theorem dL_law_1210 : decode cL_law 1210 = .ok (.iconst 4, 1) := by decide +kernel
theorem dL_law_1211 : decode cL_law 1211 = .ok (.iadd, 1) := by decide +kernel
theorem dL_law_1212 : decode cL_law 1212 = .ok (.iaload, 1) := by decide +kernel
theorem dL_law_1213 : decode cL_law 1213 = .ok (.invokevirtual 140, 3) := by decide +kernel
theorem dL_law_1216 : decode cL_law 1216 = .ok (.aload_n 2, 1) := by decide +kernel
theorem dL_law_1217 : decode cL_law 1217 = .ok (.aload_n 0, 1) := by decide +kernel
theorem dL_law_1218 : decode cL_law 1218 = .ok (.iload_n 3, 1) := by decide +kernel
theorem dL_law_1219 : decode cL_law 1219 = .ok (.iconst 1, 1) := by decide +kernel
theorem dL_law_1220 : decode cL_law 1220 = .ok (.iadd, 1) := by decide +kernel
theorem dL_law_1221 : decode cL_law 1221 = .ok (.iaload, 1) := by decide +kernel
theorem dL_law_1222 : decode cL_law 1222 = .ok (.aload_n 0, 1) := by decide +kernel
theorem dL_law_1223 : decode cL_law 1223 = .ok (.iload_n 3, 1) := by decide +kernel
theorem dL_law_1224 : decode cL_law 1224 = .ok (.iconst 2, 1) := by decide +kernel
theorem dL_law_1225 : decode cL_law 1225 = .ok (.iadd, 1) := by decide +kernel
theorem dL_law_1226 : decode cL_law 1226 = .ok (.iaload, 1) := by decide +kernel
theorem dL_law_1227 : decode cL_law 1227 = .ok (.aload_n 0, 1) := by decide +kernel
theorem dL_law_1228 : decode cL_law 1228 = .ok (.iload_n 3, 1) := by decide +kernel
theorem dL_law_1229 : decode cL_law 1229 = .ok (.iconst 3, 1) := by decide +kernel
theorem dL_law_1230 : decode cL_law 1230 = .ok (.iadd, 1) := by decide +kernel
theorem dL_law_1231 : decode cL_law 1231 = .ok (.iaload, 1) := by decide +kernel
theorem dL_law_1232 : decode cL_law 1232 = .ok (.aload_n 0, 1) := by decide +kernel
theorem dL_law_1233 : decode cL_law 1233 = .ok (.iload_n 3, 1) := by decide +kernel
theorem dL_law_1234 : decode cL_law 1234 = .ok (.iconst 4, 1) := by decide +kernel
theorem dL_law_1235 : decode cL_law 1235 = .ok (.iadd, 1) := by decide +kernel
theorem dL_law_1236 : decode cL_law 1236 = .ok (.iaload, 1) := by decide +kernel
theorem dL_law_1237 : decode cL_law 1237 = .ok (.invokevirtual 143, 3) := by decide +kernel
theorem dL_law_1240 : decode cL_law 1240 = .ok (.if_icmp .eq 38, 3) := by decide +kernel
theorem dL_law_1243 : decode cL_law 1243 = .ok (.iconst 0, 1) := by decide +kernel
theorem dL_law_1244 : decode cL_law 1244 = .ok (.ireturn, 1) := by decide +kernel
theorem dL_law_1245 : decode cL_law 1245 = .ok (.aload_n 1, 1) := by decide +kernel
theorem dL_law_1246 : decode cL_law 1246 = .ok (.aload_n 0, 1) := by decide +kernel
theorem dL_law_1247 : decode cL_law 1247 = .ok (.iload_n 3, 1) := by decide +kernel
theorem dL_law_1248 : decode cL_law 1248 = .ok (.iconst 1, 1) := by decide +kernel
theorem dL_law_1249 : decode cL_law 1249 = .ok (.iadd, 1) := by decide +kernel
theorem dL_law_1250 : decode cL_law 1250 = .ok (.iaload, 1) := by decide +kernel
theorem dL_law_1251 : decode cL_law 1251 = .ok (.aload_n 0, 1) := by decide +kernel
theorem dL_law_1252 : decode cL_law 1252 = .ok (.iload_n 3, 1) := by decide +kernel
theorem dL_law_1253 : decode cL_law 1253 = .ok (.iconst 2, 1) := by decide +kernel
theorem dL_law_1254 : decode cL_law 1254 = .ok (.iadd, 1) := by decide +kernel
theorem dL_law_1255 : decode cL_law 1255 = .ok (.iaload, 1) := by decide +kernel
theorem dL_law_1256 : decode cL_law 1256 = .ok (.invokevirtual 144, 3) := by decide +kernel
theorem dL_law_1259 : decode cL_law 1259 = .ok (.aload_n 2, 1) := by decide +kernel
theorem dL_law_1260 : decode cL_law 1260 = .ok (.aload_n 0, 1) := by decide +kernel
theorem dL_law_1261 : decode cL_law 1261 = .ok (.iload_n 3, 1) := by decide +kernel
theorem dL_law_1262 : decode cL_law 1262 = .ok (.iconst 1, 1) := by decide +kernel
theorem dL_law_1263 : decode cL_law 1263 = .ok (.iadd, 1) := by decide +kernel
theorem dL_law_1264 : decode cL_law 1264 = .ok (.iaload, 1) := by decide +kernel
theorem dL_law_1265 : decode cL_law 1265 = .ok (.aload_n 0, 1) := by decide +kernel
theorem dL_law_1266 : decode cL_law 1266 = .ok (.iload_n 3, 1) := by decide +kernel
theorem dL_law_1267 : decode cL_law 1267 = .ok (.iconst 2, 1) := by decide +kernel
theorem dL_law_1268 : decode cL_law 1268 = .ok (.iadd, 1) := by decide +kernel
theorem dL_law_1269 : decode cL_law 1269 = .ok (.iaload, 1) := by decide +kernel
theorem dL_law_1270 : decode cL_law 1270 = .ok (.invokevirtual 147, 3) := by decide +kernel
theorem dL_law_1273 : decode cL_law 1273 = .ok (.if_icmp .eq 5, 3) := by decide +kernel
theorem dL_law_1276 : decode cL_law 1276 = .ok (.iconst 0, 1) := by decide +kernel
theorem dL_law_1277 : decode cL_law 1277 = .ok (.ireturn, 1) := by decide +kernel
theorem dL_law_1278 : decode cL_law 1278 = .ok (.iinc 3 6, 3) := by decide +kernel
theorem dL_law_1281 : decode cL_law 1281 = .ok (.goto (-1263), 3) := by decide +kernel
theorem dL_law_1284 : decode cL_law 1284 = .ok (.iconst 1, 1) := by decide +kernel
theorem dL_law_1285 : decode cL_law 1285 = .ok (.ireturn, 1) := by decide +kernel
end
section
/-- the words that a callee may have, too -/
def tb : List Cond := lw_tbl.filter goodWord
/-- the launch, the classes' numbers, the array classes, the first new cell, what is only read -/
abbrev GC : Type := Launch × va_G × (Nat → ClassId) × Nat × (State → Prop)
abbrev gl (g : GC) : Launch := g.1
abbrev gD (g : GC) : va_G := g.2.1
abbrev gA (g : GC) : Nat → ClassId := g.2.2.1
abbrev gN (g : GC) : Nat := g.2.2.2.1
abbrev gR (g : GC) : State → Prop := g.2.2.2.2
abbrev tys (f : Nat → ClassId) : List (ClassId × FieldType) := [(f 0, .int), (f 1, .byte), (f 2, .boolean), (f 3, .object RX8), (f 4, .object RX1), (f 5, .object RX5), (f 6, .object RX7), (f 7, .object RX6)]
abbrev hE : Type := (Nat × vp_A) ⊕ (Nat × List Value)
abbrev hH : Type := Nat → Option hE
def tr (g : GC) (e : hE) : va_E := match e with
  | .inl a => .inl (gA g a.1, a.2)
  | .inr o => .inr o
def HP (g : GC) (h : hH) (H : Heap) : Prop := ∃ ws : va_W, va_P (gD g) vwCl ws H ∧ va_D (fun q => gN g ≤ q) ws ∧ ∀ q e, h q = some e → (q, tr g e) ∈ ws
def Rok (g : GC) : Prop := ∀ s U : State, s.WarmedH U.vm → (∀ q : Nat, q < gN g → U.heap[q]? = s.heap[q]?) → gR g s → gR g U
def Pk (g : GC) (h : hH) (U : State) : Prop := Rok g ∧ va_K (gD g) vwCl (tys (gA g)) U ∧ gR g U ∧ gN g ≤ U.heap.size ∧ HP g h U.heap
def Qk (g : GC) (K : Option Value → hH → Prop) : Array Value → State → Outcome → State → Prop := fun _ st oc t => (∃ v h', oc = .returned v ∧ K v h' ∧ HP g h' t.heap) ∧ va_F (fun q => gN g ≤ q) st t
def Sx (g : GC) (own : String) (cc : ByteArray) (nL : Nat) (ret : Option FieldType) (nm : String) (d c n : Nat) (p : Program) (s : State) (m : MethodId) (args : Array Value) (meth : Method) (c' : Code) (cells slots mc ms : Nat) (R : Room) : Prop :=
  p.tables.exec = Jvm.exec ∧ c'.code = cc ∧ c'.maxLocals = nL ∧ meth.sig.returnType = ret ∧ meth.locks = false ∧ meth.name = nm ∧ s.vm.findClass own = some m.cls ∧ (∀ w ∈ tb, w.before args s = true) ∧ Rok g ∧ va_K (gD g) vwCl (tys (gA g)) s ∧ gR g s ∧ gN g ≤ s.heap.size ∧ cells + c ≤ mc ∧ slots + n ≤ ms ∧ mc ≤ R.cells ∧ ms ≤ R.slots ∧ d ≤ R.frames ∧ 64 * d ≤ R.locals
def AW (g : GC) (own : String) (cc : ByteArray) (nL : Nat) (ret : Option FieldType) (nm : String) (d c n : Nat) (K : Option Value → hH → Prop) (pc : Nat) (L : List (Nat × Value)) (st : List Value) (h : hH) : Prop :=
  ∀ (p : Program) (e : Env) (s : State) (m : MethodId) (args : Array Value) (below : List Frame) (meth : Method) (c' : Code) (H : Heap) (locs : List Loc) (cells slots mc ms : Nat) (R : Room) (ls : Array Slot),
    Sx g own cc nL ret nm d c n p s m args meth c' cells slots mc ms R → HP g h H → va_S (fun q => gN g ≤ q) s.heap H locs → lv_has ls nL L →
    W p (gl g) e R s m args below meth c' H locs cells slots (MQ below (Qk g K) args s mc ms (fun q => gN g ≤ q)) (F0 m pc ls st)
def AM (g : GC) (d c n : Nat) (y : MethodName) (cc : ByteArray) (maxL : Nat) (ret : Option FieldType) (args : List Value) (h : hH) (K : Option Value → hH → Prop) : Prop :=
  Met (gl g) y (.code y cc maxL ret :: tb) ({ frames := d, cells := c, slots := n, locals := 64 * d }) (va_Pc args (Pk g h)) (Qk g K) c n (fun q => gN g ≤ q)
def lk : List (Nat × Value) → Nat → Option Value
  | [], _ => none
  | q :: t, i => if q.1 = i then some q.2 else lk t i
theorem lk_mem : ∀ {L : List (Nat × Value)} {i : Nat} {v : Value}, lk L i = some v → (i, v) ∈ L
  | [], _, _, h => by cases h
  | q :: t, i, v, h => by
    unfold lk at h
    split at h
    · next e => cases h; cases e; exact List.mem_cons_self
    · exact List.mem_cons_of_mem _ (lk_mem h)
theorem lk_at {ls : Array Slot} {nL : Nat} {L : List (Nat × Value)} (h : lv_has ls nL L) {i : Nat} {v : Value} (hk : lk L i = some v) : ls[i]? = some (.val v) := h.2.2 (i, v) (lk_mem hk)
def st1 (L : List (Nat × Value)) (i : Nat) (v : Value) : List (Nat × Value) := (i, v) :: L.filter (fun q => !(q.1 == i) && !(q.1 + 1 == i && q.2.category == 2))
def st2 (L : List (Nat × Value)) (i : Nat) (v : Value) : List (Nat × Value) := (i, v) :: L.filter (fun q => !(q.1 == i) && (!(q.1 == i + 1) && !(q.1 + 1 == i && q.2.category == 2)))
/-- one cell of the heap anew -/
def hu (h : hH) (a : Nat) (e : hE) : hH := fun q => if q = a then some e else h q
theorem hu_eq (h : hH) (a : Nat) (e : hE) : hu h a e a = some e := if_pos rfl
theorem hu_ne {h : hH} {a q : Nat} {e : hE} (n : q ≠ a) : hu h a e q = h q := if_neg n
theorem HP.at {g : GC} {h : hH} {ws : va_W} (hi : ∀ q e, h q = some e → (q, tr g e) ∈ ws) {a : Nat} {e : hE} (ha : h a = some e) : ∃ q0 : Nat, ws[q0]? = some (a, tr g e) := List.getElem?_of_mem (hi a e ha)
theorem HP.set {g : GC} {h : hH} {ws : va_W} {H : Heap} (hD : va_D (fun q => gN g ≤ q) ws) (hi : ∀ q e, h q = some e → (q, tr g e) ∈ ws) {a q0 : Nat} {e0 : va_E} {e1 : hE} (hq : ws[q0]? = some (a, e0)) (hP : va_P (gD g) vwCl (ws.set q0 (a, tr g e1)) H) (hD1 : va_D (fun q => gN g ≤ q) (ws.set q0 (a, tr g e1))) : HP g (hu h a e1) H := by
  refine ⟨_, hP, hD1, fun q e he => ?_⟩
  have hl := (List.getElem?_eq_some_iff.mp hq).1
  by_cases hqa : q = a
  · subst hqa
    rw [hu_eq] at he
    cases he
    exact List.mem_of_getElem? (List.getElem?_set_self hl)
  · rw [hu_ne hqa] at he
    obtain ⟨i, hI⟩ := List.getElem?_of_mem (hi q e he)
    have hne : q0 ≠ i := fun z => by subst z; rw [hq] at hI; cases hI; exact hqa rfl
    exact List.mem_of_getElem? ((List.getElem?_set_ne hne).trans hI)
theorem HP.push {g : GC} {h : hH} {ws : va_W} {H : Heap} (hi : ∀ q e, h q = some e → (q, tr g e) ∈ ws) {a : Nat} {e1 : hE} (hP : va_P (gD g) vwCl (ws ++ [(a, tr g e1)]) H) (hD1 : va_D (fun q => gN g ≤ q) (ws ++ [(a, tr g e1)])) : h a = none ∧ HP g (hu h a e1) H := by
  have hn : h a = none := by
    cases hx : h a with
    | none => rfl
    | some e =>
      obtain ⟨i, hI⟩ := List.getElem?_of_mem (hi a e hx)
      have hl := (List.getElem?_eq_some_iff.mp hI).1
      have h1 : (ws ++ [(a, tr g e1)])[i]? = some (a, tr g e) := by rw [List.getElem?_append_left hl]; exact hI
      have h2 : (ws ++ [(a, tr g e1)])[ws.length]? = some (a, tr g e1) := by simp
      have := hD1.1 i ws.length _ _ h1 h2 rfl
      omega
  refine ⟨hn, _, hP, hD1, fun q e he => ?_⟩
  by_cases hqa : q = a
  · subst hqa
    rw [hu_eq] at he
    cases he
    exact List.mem_append_right _ List.mem_cons_self
  · rw [hu_ne hqa] at he
    exact List.mem_append_left _ (hi q e he)
theorem tb_good : GoodIn tb tb := fun w hw => ⟨hw, good_of_word (List.mem_filter.mp hw).2⟩
theorem tb_at (i : Nat) {w : Cond} (h : lw_tbl[i]? = some w) (hg : goodWord w = true) : w ∈ tb := List.mem_filter.mpr ⟨List.mem_of_getElem? h, hg⟩

section R1
variable {g : GC} {own : String} {cc : ByteArray} {nL : Nat} {ret : Option FieldType} {nm : String} {d c n : Nat} {K : Option Value → hH → Prop} {pc : Nat} {L : List (Nat × Value)} {rest : List Value} {h : hH}
theorem r_iconst {z : Int} {v : Int32} (hd : decode cc pc = .ok (.iconst z, 1)) (hv : Int32.ofInt z = v) (k : AW g own cc nL ret nm d c n K (pc + 1) L (.int v :: rest) h) : AW g own cc nL ret nm d c n K pc L rest h :=
  fun p e s m args below meth c1 H locs cells slots mc ms R ls X hH hS hl => lv_iconst X.1 X.2.1 hd hv (k p e s m args below meth c1 H locs cells slots mc ms R ls X hH hS hl)
theorem r_bipush {z : Int} {v : Int32} (hd : decode cc pc = .ok (.bipush z, 2)) (hv : (Int8.ofInt z).toInt32 = v) (k : AW g own cc nL ret nm d c n K (pc + 2) L (.int v :: rest) h) : AW g own cc nL ret nm d c n K pc L rest h :=
  fun p e s m args below meth c1 H locs cells slots mc ms R ls X hH hS hl => lv_bipush X.1 X.2.1 hd hv (k p e s m args below meth c1 H locs cells slots mc ms R ls X hH hS hl)
theorem r_sipush {z : Int} {v : Int32} (hd : decode cc pc = .ok (.sipush z, 3)) (hv : (Int16.ofInt z).toInt32 = v) (k : AW g own cc nL ret nm d c n K (pc + 3) L (.int v :: rest) h) : AW g own cc nL ret nm d c n K pc L rest h :=
  fun p e s m args below meth c1 H locs cells slots mc ms R ls X hH hS hl => lv_sipush X.1 X.2.1 hd hv (k p e s m args below meth c1 H locs cells slots mc ms R ls X hH hS hl)
theorem r_lconst {z : Fin 2} {v : Int64} (hd : decode cc pc = .ok (.lconst z, 1)) (hv : Int64.ofNat (z : Nat) = v) (k : AW g own cc nL ret nm d c n K (pc + 1) L (.long v :: rest) h) : AW g own cc nL ret nm d c n K pc L rest h :=
  fun p e s m args below meth c1 H locs cells slots mc ms R ls X hH hS hl => lv_lconst X.1 X.2.1 hd hv (k p e s m args below meth c1 H locs cells slots mc ms R ls X hH hS hl)
theorem r_null  (hd : decode cc pc = .ok (.aconst_null, 1)) (k : AW g own cc nL ret nm d c n K (pc + 1) L (.null :: rest) h) : AW g own cc nL ret nm d c n K pc L rest h :=
  fun p e s m args below meth c1 H locs cells slots mc ms R ls X hH hS hl => lv_null X.1 X.2.1 hd  (k p e s m args below meth c1 H locs cells slots mc ms R ls X hH hS hl)
theorem r_iload_n {k0 : Fin 4} {x : Int32} (hd : decode cc pc = .ok (.iload_n k0, 1)) (hx : lk L (k0 : Nat) = some (.int x)) (k : AW g own cc nL ret nm d c n K (pc + 1) L (.int x :: rest) h) : AW g own cc nL ret nm d c n K pc L rest h :=
  fun p e s m args below meth c1 H locs cells slots mc ms R ls X hH hS hl => lv_iload_n X.1 X.2.1 hd rfl (lk_at hl hx) (k p e s m args below meth c1 H locs cells slots mc ms R ls X hH hS hl)
theorem r_iload {i : Nat} {x : Int32} (hd : decode cc pc = .ok (.iload i, 2)) (hx : lk L i = some (.int x)) (k : AW g own cc nL ret nm d c n K (pc + 2) L (.int x :: rest) h) : AW g own cc nL ret nm d c n K pc L rest h :=
  fun p e s m args below meth c1 H locs cells slots mc ms R ls X hH hS hl => lv_iload X.1 X.2.1 hd (lk_at hl hx) (k p e s m args below meth c1 H locs cells slots mc ms R ls X hH hS hl)
theorem r_lload_n {k0 : Fin 4} {x : Int64} (hd : decode cc pc = .ok (.lload_n k0, 1)) (hx : lk L (k0 : Nat) = some (.long x)) (k : AW g own cc nL ret nm d c n K (pc + 1) L (.long x :: rest) h) : AW g own cc nL ret nm d c n K pc L rest h :=
  fun p e s m args below meth c1 H locs cells slots mc ms R ls X hH hS hl => lv_lload_n X.1 X.2.1 hd rfl (lk_at hl hx) (k p e s m args below meth c1 H locs cells slots mc ms R ls X hH hS hl)
theorem r_lload {i : Nat} {x : Int64} (hd : decode cc pc = .ok (.lload i, 2)) (hx : lk L i = some (.long x)) (k : AW g own cc nL ret nm d c n K (pc + 2) L (.long x :: rest) h) : AW g own cc nL ret nm d c n K pc L rest h :=
  fun p e s m args below meth c1 H locs cells slots mc ms R ls X hH hS hl => lv_lload X.1 X.2.1 hd (lk_at hl hx) (k p e s m args below meth c1 H locs cells slots mc ms R ls X hH hS hl)
theorem r_aload_n {k0 : Fin 4} {x : Nat} (hd : decode cc pc = .ok (.aload_n k0, 1)) (hx : lk L (k0 : Nat) = some (.ref x)) (k : AW g own cc nL ret nm d c n K (pc + 1) L (.ref x :: rest) h) : AW g own cc nL ret nm d c n K pc L rest h :=
  fun p e s m args below meth c1 H locs cells slots mc ms R ls X hH hS hl => lv_aload_n X.1 X.2.1 hd rfl (lk_at hl hx) (k p e s m args below meth c1 H locs cells slots mc ms R ls X hH hS hl)
theorem r_aload {i : Nat} {x : Nat} (hd : decode cc pc = .ok (.aload i, 2)) (hx : lk L i = some (.ref x)) (k : AW g own cc nL ret nm d c n K (pc + 2) L (.ref x :: rest) h) : AW g own cc nL ret nm d c n K pc L rest h :=
  fun p e s m args below meth c1 H locs cells slots mc ms R ls X hH hS hl => lv_aload X.1 X.2.1 hd (lk_at hl hx) (k p e s m args below meth c1 H locs cells slots mc ms R ls X hH hS hl)
theorem r_aload_nN {k0 : Fin 4} (hd : decode cc pc = .ok (.aload_n k0, 1)) (hx : lk L (k0 : Nat) = some .null) (k : AW g own cc nL ret nm d c n K (pc + 1) L (.null :: rest) h) : AW g own cc nL ret nm d c n K pc L rest h :=
  fun p e s m args below meth c1 H locs cells slots mc ms R ls X hH hS hl => lv_aload_nN X.1 X.2.1 hd rfl (lk_at hl hx) (k p e s m args below meth c1 H locs cells slots mc ms R ls X hH hS hl)
theorem r_aloadN {i : Nat} (hd : decode cc pc = .ok (.aload i, 2)) (hx : lk L i = some .null) (k : AW g own cc nL ret nm d c n K (pc + 2) L (.null :: rest) h) : AW g own cc nL ret nm d c n K pc L rest h :=
  fun p e s m args below meth c1 H locs cells slots mc ms R ls X hH hS hl => lv_aloadN X.1 X.2.1 hd (lk_at hl hx) (k p e s m args below meth c1 H locs cells slots mc ms R ls X hH hS hl)
theorem r_istore_n {k0 : Fin 4} {x : Int32} (hd : decode cc pc = .ok (.istore_n k0, 1)) (hn : (k0 : Nat) < nL) (k : AW g own cc nL ret nm d c n K (pc + 1) (st1 L (k0 : Nat) (.int x)) rest h) : AW g own cc nL ret nm d c n K pc L ((.int x) :: rest) h :=
  fun p e s m args below meth c1 H locs cells slots mc ms R ls X hH hS hl => lv_istore_n X.1 X.2.1 hd rfl hl hn rfl (fun ls hl => k p e s m args below meth c1 H locs cells slots mc ms R ls X hH hS hl)
theorem r_istore {i : Nat} {x : Int32} (hd : decode cc pc = .ok (.istore i, 2)) (hn : i < nL) (k : AW g own cc nL ret nm d c n K (pc + 2) (st1 L i (.int x)) rest h) : AW g own cc nL ret nm d c n K pc L ((.int x) :: rest) h :=
  fun p e s m args below meth c1 H locs cells slots mc ms R ls X hH hS hl => lv_istore X.1 X.2.1 hd hl hn rfl (fun ls hl => k p e s m args below meth c1 H locs cells slots mc ms R ls X hH hS hl)
theorem r_lstore_n {k0 : Fin 4} {x : Int64} (hd : decode cc pc = .ok (.lstore_n k0, 1)) (hn : (k0 : Nat) + 1 < nL) (k : AW g own cc nL ret nm d c n K (pc + 1) (st2 L (k0 : Nat) (.long x)) rest h) : AW g own cc nL ret nm d c n K pc L ((.long x) :: rest) h :=
  fun p e s m args below meth c1 H locs cells slots mc ms R ls X hH hS hl => lv_lstore_n X.1 X.2.1 hd rfl hl hn rfl (fun ls hl => k p e s m args below meth c1 H locs cells slots mc ms R ls X hH hS hl)
theorem r_lstore {i : Nat} {x : Int64} (hd : decode cc pc = .ok (.lstore i, 2)) (hn : i + 1 < nL) (k : AW g own cc nL ret nm d c n K (pc + 2) (st2 L i (.long x)) rest h) : AW g own cc nL ret nm d c n K pc L ((.long x) :: rest) h :=
  fun p e s m args below meth c1 H locs cells slots mc ms R ls X hH hS hl => lv_lstore X.1 X.2.1 hd hl hn rfl (fun ls hl => k p e s m args below meth c1 H locs cells slots mc ms R ls X hH hS hl)
theorem r_astore_n {k0 : Fin 4} {x : Nat} (hd : decode cc pc = .ok (.astore_n k0, 1)) (hn : (k0 : Nat) < nL) (k : AW g own cc nL ret nm d c n K (pc + 1) (st1 L (k0 : Nat) (.ref x)) rest h) : AW g own cc nL ret nm d c n K pc L ((.ref x) :: rest) h :=
  fun p e s m args below meth c1 H locs cells slots mc ms R ls X hH hS hl => lv_astore_n X.1 X.2.1 hd rfl hl hn rfl (fun ls hl => k p e s m args below meth c1 H locs cells slots mc ms R ls X hH hS hl)
theorem r_astore {i : Nat} {x : Nat} (hd : decode cc pc = .ok (.astore i, 2)) (hn : i < nL) (k : AW g own cc nL ret nm d c n K (pc + 2) (st1 L i (.ref x)) rest h) : AW g own cc nL ret nm d c n K pc L ((.ref x) :: rest) h :=
  fun p e s m args below meth c1 H locs cells slots mc ms R ls X hH hS hl => lv_astore X.1 X.2.1 hd hl hn rfl (fun ls hl => k p e s m args below meth c1 H locs cells slots mc ms R ls X hH hS hl)
theorem r_astore_nN {k0 : Fin 4} (hd : decode cc pc = .ok (.astore_n k0, 1)) (hn : (k0 : Nat) < nL) (k : AW g own cc nL ret nm d c n K (pc + 1) (st1 L (k0 : Nat) .null) rest h) : AW g own cc nL ret nm d c n K pc L (.null :: rest) h :=
  fun p e s m args below meth c1 H locs cells slots mc ms R ls X hH hS hl => lv_astore_nN X.1 X.2.1 hd rfl hl hn rfl (fun ls hl => k p e s m args below meth c1 H locs cells slots mc ms R ls X hH hS hl)
theorem r_astoreN {i : Nat} (hd : decode cc pc = .ok (.astore i, 2)) (hn : i < nL) (k : AW g own cc nL ret nm d c n K (pc + 2) (st1 L i .null) rest h) : AW g own cc nL ret nm d c n K pc L (.null :: rest) h :=
  fun p e s m args below meth c1 H locs cells slots mc ms R ls X hH hS hl => lv_astoreN X.1 X.2.1 hd hl hn rfl (fun ls hl => k p e s m args below meth c1 H locs cells slots mc ms R ls X hH hS hl)
theorem r_iinc {i : Nat} {z : Int} {x v : Int32} (hd : decode cc pc = .ok (.iinc i z, 3)) (hx : lk L i = some (.int x)) (hv : x + Int32.ofInt z = v) (hn : i < nL) (k : AW g own cc nL ret nm d c n K (pc + 3) (st1 L i (.int v)) rest h) : AW g own cc nL ret nm d c n K pc L rest h := by
  intro p e s m args below meth c1 H locs cells slots mc ms R ls X hH hS hl
  obtain ⟨k0, hk0⟩ := List.getElem?_of_mem (lk_mem hx)
  exact lv_iinc (k := k0) X.1 X.2.1 hd hl hk0 hv hn rfl (fun ls hl => k p e s m args below meth c1 H locs cells slots mc ms R ls X hH hS hl)
theorem r_iadd {x y : Int32} (hd : decode cc pc = .ok (.iadd, 1)) (k : AW g own cc nL ret nm d c n K (pc + 1) L (.int (x + y) :: rest) h) : AW g own cc nL ret nm d c n K pc L (.int y :: .int x :: rest) h :=
  fun p e s m args below meth c1 H locs cells slots mc ms R ls X hH hS hl => lv_iadd X.1 X.2.1 hd  (k p e s m args below meth c1 H locs cells slots mc ms R ls X hH hS hl)
theorem r_isub {x y : Int32} (hd : decode cc pc = .ok (.isub, 1)) (k : AW g own cc nL ret nm d c n K (pc + 1) L (.int (x - y) :: rest) h) : AW g own cc nL ret nm d c n K pc L (.int y :: .int x :: rest) h :=
  fun p e s m args below meth c1 H locs cells slots mc ms R ls X hH hS hl => lv_isub X.1 X.2.1 hd  (k p e s m args below meth c1 H locs cells slots mc ms R ls X hH hS hl)
theorem r_imul {x y : Int32} (hd : decode cc pc = .ok (.imul, 1)) (k : AW g own cc nL ret nm d c n K (pc + 1) L (.int (x * y) :: rest) h) : AW g own cc nL ret nm d c n K pc L (.int y :: .int x :: rest) h :=
  fun p e s m args below meth c1 H locs cells slots mc ms R ls X hH hS hl => lv_imul X.1 X.2.1 hd  (k p e s m args below meth c1 H locs cells slots mc ms R ls X hH hS hl)
theorem r_iand {x y : Int32} (hd : decode cc pc = .ok (.iand, 1)) (k : AW g own cc nL ret nm d c n K (pc + 1) L (.int (x &&& y) :: rest) h) : AW g own cc nL ret nm d c n K pc L (.int y :: .int x :: rest) h :=
  fun p e s m args below meth c1 H locs cells slots mc ms R ls X hH hS hl => lv_iand X.1 X.2.1 hd  (k p e s m args below meth c1 H locs cells slots mc ms R ls X hH hS hl)
theorem r_ior {x y : Int32} (hd : decode cc pc = .ok (.ior, 1)) (k : AW g own cc nL ret nm d c n K (pc + 1) L (.int (x ||| y) :: rest) h) : AW g own cc nL ret nm d c n K pc L (.int y :: .int x :: rest) h :=
  fun p e s m args below meth c1 H locs cells slots mc ms R ls X hH hS hl => lv_ior X.1 X.2.1 hd  (k p e s m args below meth c1 H locs cells slots mc ms R ls X hH hS hl)
theorem r_ixor {x y : Int32} (hd : decode cc pc = .ok (.ixor, 1)) (k : AW g own cc nL ret nm d c n K (pc + 1) L (.int (x ^^^ y) :: rest) h) : AW g own cc nL ret nm d c n K pc L (.int y :: .int x :: rest) h :=
  fun p e s m args below meth c1 H locs cells slots mc ms R ls X hH hS hl => lv_ixor X.1 X.2.1 hd  (k p e s m args below meth c1 H locs cells slots mc ms R ls X hH hS hl)
theorem r_ladd {x y : Int64} (hd : decode cc pc = .ok (.ladd, 1)) (k : AW g own cc nL ret nm d c n K (pc + 1) L (.long (x + y) :: rest) h) : AW g own cc nL ret nm d c n K pc L (.long y :: .long x :: rest) h :=
  fun p e s m args below meth c1 H locs cells slots mc ms R ls X hH hS hl => lv_ladd X.1 X.2.1 hd  (k p e s m args below meth c1 H locs cells slots mc ms R ls X hH hS hl)
theorem r_lsub {x y : Int64} (hd : decode cc pc = .ok (.lsub, 1)) (k : AW g own cc nL ret nm d c n K (pc + 1) L (.long (x - y) :: rest) h) : AW g own cc nL ret nm d c n K pc L (.long y :: .long x :: rest) h :=
  fun p e s m args below meth c1 H locs cells slots mc ms R ls X hH hS hl => lv_lsub X.1 X.2.1 hd  (k p e s m args below meth c1 H locs cells slots mc ms R ls X hH hS hl)
theorem r_lmul {x y : Int64} (hd : decode cc pc = .ok (.lmul, 1)) (k : AW g own cc nL ret nm d c n K (pc + 1) L (.long (x * y) :: rest) h) : AW g own cc nL ret nm d c n K pc L (.long y :: .long x :: rest) h :=
  fun p e s m args below meth c1 H locs cells slots mc ms R ls X hH hS hl => lv_lmul X.1 X.2.1 hd  (k p e s m args below meth c1 H locs cells slots mc ms R ls X hH hS hl)
theorem r_land {x y : Int64} (hd : decode cc pc = .ok (.land, 1)) (k : AW g own cc nL ret nm d c n K (pc + 1) L (.long (x &&& y) :: rest) h) : AW g own cc nL ret nm d c n K pc L (.long y :: .long x :: rest) h :=
  fun p e s m args below meth c1 H locs cells slots mc ms R ls X hH hS hl => lv_land X.1 X.2.1 hd  (k p e s m args below meth c1 H locs cells slots mc ms R ls X hH hS hl)
theorem r_lor {x y : Int64} (hd : decode cc pc = .ok (.lor, 1)) (k : AW g own cc nL ret nm d c n K (pc + 1) L (.long (x ||| y) :: rest) h) : AW g own cc nL ret nm d c n K pc L (.long y :: .long x :: rest) h :=
  fun p e s m args below meth c1 H locs cells slots mc ms R ls X hH hS hl => lv_lor X.1 X.2.1 hd  (k p e s m args below meth c1 H locs cells slots mc ms R ls X hH hS hl)
theorem r_ishl {x y : Int32} (hd : decode cc pc = .ok (.ishl, 1)) (k : AW g own cc nL ret nm d c n K (pc + 1) L (.int (x <<< (y &&& 31)) :: rest) h) : AW g own cc nL ret nm d c n K pc L (.int y :: .int x :: rest) h :=
  fun p e s m args below meth c1 H locs cells slots mc ms R ls X hH hS hl => lv_ishl X.1 X.2.1 hd  (k p e s m args below meth c1 H locs cells slots mc ms R ls X hH hS hl)
theorem r_ishr {x y : Int32} (hd : decode cc pc = .ok (.ishr, 1)) (k : AW g own cc nL ret nm d c n K (pc + 1) L (.int (x >>> (y &&& 31)) :: rest) h) : AW g own cc nL ret nm d c n K pc L (.int y :: .int x :: rest) h :=
  fun p e s m args below meth c1 H locs cells slots mc ms R ls X hH hS hl => lv_ishr X.1 X.2.1 hd  (k p e s m args below meth c1 H locs cells slots mc ms R ls X hH hS hl)
theorem r_iushr {x y : Int32} (hd : decode cc pc = .ok (.iushr, 1)) (k : AW g own cc nL ret nm d c n K (pc + 1) L (.int ((x.toUInt32 >>> (y.toUInt32 &&& Int32.toUInt32 31)).toInt32) :: rest) h) : AW g own cc nL ret nm d c n K pc L (.int y :: .int x :: rest) h :=
  fun p e s m args below meth c1 H locs cells slots mc ms R ls X hH hS hl => lv_iushr X.1 X.2.1 hd rfl (k p e s m args below meth c1 H locs cells slots mc ms R ls X hH hS hl)
theorem r_lushr {x : Int64} {y : Int32} (hd : decode cc pc = .ok (.lushr, 1)) (k : AW g own cc nL ret nm d c n K (pc + 1) L (.long ((x.toUInt64 >>> (y.toInt64.toUInt64 &&& Int64.toUInt64 63)).toInt64) :: rest) h) : AW g own cc nL ret nm d c n K pc L (.int y :: .long x :: rest) h :=
  fun p e s m args below meth c1 H locs cells slots mc ms R ls X hH hS hl => lv_lushr X.1 X.2.1 hd rfl (k p e s m args below meth c1 H locs cells slots mc ms R ls X hH hS hl)
theorem r_lshl {x : Int64} {y : Int32} (hd : decode cc pc = .ok (.lshl, 1)) (k : AW g own cc nL ret nm d c n K (pc + 1) L (.long (x <<< (y.toInt64 &&& 63)) :: rest) h) : AW g own cc nL ret nm d c n K pc L (.int y :: .long x :: rest) h :=
  fun p e s m args below meth c1 H locs cells slots mc ms R ls X hH hS hl => lv_lshl X.1 X.2.1 hd rfl (k p e s m args below meth c1 H locs cells slots mc ms R ls X hH hS hl)
theorem r_lshr {x : Int64} {y : Int32} (hd : decode cc pc = .ok (.lshr, 1)) (k : AW g own cc nL ret nm d c n K (pc + 1) L (.long (x >>> (y.toInt64 &&& 63)) :: rest) h) : AW g own cc nL ret nm d c n K pc L (.int y :: .long x :: rest) h :=
  fun p e s m args below meth c1 H locs cells slots mc ms R ls X hH hS hl => lv_lshr X.1 X.2.1 hd rfl (k p e s m args below meth c1 H locs cells slots mc ms R ls X hH hS hl)
theorem r_idiv {x y : Int32} (hd : decode cc pc = .ok (.idiv, 1)) (hy : ¬ y = 0) (k : AW g own cc nL ret nm d c n K (pc + 1) L (.int (x / y) :: rest) h) : AW g own cc nL ret nm d c n K pc L (.int y :: .int x :: rest) h :=
  fun p e s m args below meth c1 H locs cells slots mc ms R ls X hH hS hl => lv_idiv X.1 X.2.1 hd hy (k p e s m args below meth c1 H locs cells slots mc ms R ls X hH hS hl)
theorem r_irem {x y : Int32} (hd : decode cc pc = .ok (.irem, 1)) (hy : ¬ y = 0) (k : AW g own cc nL ret nm d c n K (pc + 1) L (.int (x - x / y * y) :: rest) h) : AW g own cc nL ret nm d c n K pc L (.int y :: .int x :: rest) h :=
  fun p e s m args below meth c1 H locs cells slots mc ms R ls X hH hS hl => lv_irem X.1 X.2.1 hd hy (k p e s m args below meth c1 H locs cells slots mc ms R ls X hH hS hl)
theorem r_ldiv {x y : Int64} (hd : decode cc pc = .ok (.ldiv, 1)) (hy : ¬ y = 0) (k : AW g own cc nL ret nm d c n K (pc + 1) L (.long (x / y) :: rest) h) : AW g own cc nL ret nm d c n K pc L (.long y :: .long x :: rest) h :=
  fun p e s m args below meth c1 H locs cells slots mc ms R ls X hH hS hl => lv_ldiv X.1 X.2.1 hd hy (k p e s m args below meth c1 H locs cells slots mc ms R ls X hH hS hl)
theorem r_lrem {x y : Int64} (hd : decode cc pc = .ok (.lrem, 1)) (hy : ¬ y = 0) (k : AW g own cc nL ret nm d c n K (pc + 1) L (.long (x - x / y * y) :: rest) h) : AW g own cc nL ret nm d c n K pc L (.long y :: .long x :: rest) h :=
  fun p e s m args below meth c1 H locs cells slots mc ms R ls X hH hS hl => lv_lrem X.1 X.2.1 hd hy (k p e s m args below meth c1 H locs cells slots mc ms R ls X hH hS hl)
theorem r_ineg {x : Int32} (hd : decode cc pc = .ok (.ineg, 1)) (k : AW g own cc nL ret nm d c n K (pc + 1) L (.int (-x) :: rest) h) : AW g own cc nL ret nm d c n K pc L (.int x :: rest) h :=
  fun p e s m args below meth c1 H locs cells slots mc ms R ls X hH hS hl => lv_ineg X.1 X.2.1 hd  (k p e s m args below meth c1 H locs cells slots mc ms R ls X hH hS hl)
theorem r_lneg {x : Int64} (hd : decode cc pc = .ok (.lneg, 1)) (k : AW g own cc nL ret nm d c n K (pc + 1) L (.long (-x) :: rest) h) : AW g own cc nL ret nm d c n K pc L (.long x :: rest) h :=
  fun p e s m args below meth c1 H locs cells slots mc ms R ls X hH hS hl => lv_lneg X.1 X.2.1 hd  (k p e s m args below meth c1 H locs cells slots mc ms R ls X hH hS hl)
theorem r_i2l {x : Int32} (hd : decode cc pc = .ok (.i2l, 1)) (k : AW g own cc nL ret nm d c n K (pc + 1) L (.long x.toInt64 :: rest) h) : AW g own cc nL ret nm d c n K pc L (.int x :: rest) h :=
  fun p e s m args below meth c1 H locs cells slots mc ms R ls X hH hS hl => lv_i2l X.1 X.2.1 hd rfl (k p e s m args below meth c1 H locs cells slots mc ms R ls X hH hS hl)
theorem r_l2i {x : Int64} (hd : decode cc pc = .ok (.l2i, 1)) (k : AW g own cc nL ret nm d c n K (pc + 1) L (.int x.toInt32 :: rest) h) : AW g own cc nL ret nm d c n K pc L (.long x :: rest) h :=
  fun p e s m args below meth c1 H locs cells slots mc ms R ls X hH hS hl => lv_l2i X.1 X.2.1 hd rfl (k p e s m args below meth c1 H locs cells slots mc ms R ls X hH hS hl)
theorem r_i2b {x : Int32} (hd : decode cc pc = .ok (.i2b, 1)) (k : AW g own cc nL ret nm d c n K (pc + 1) L (.int x.toInt8.toInt32 :: rest) h) : AW g own cc nL ret nm d c n K pc L (.int x :: rest) h :=
  fun p e s m args below meth c1 H locs cells slots mc ms R ls X hH hS hl => lv_i2b X.1 X.2.1 hd rfl (k p e s m args below meth c1 H locs cells slots mc ms R ls X hH hS hl)
theorem r_i2s {x : Int32} (hd : decode cc pc = .ok (.i2s, 1)) (k : AW g own cc nL ret nm d c n K (pc + 1) L (.int x.toInt16.toInt32 :: rest) h) : AW g own cc nL ret nm d c n K pc L (.int x :: rest) h :=
  fun p e s m args below meth c1 H locs cells slots mc ms R ls X hH hS hl => lv_i2s X.1 X.2.1 hd rfl (k p e s m args below meth c1 H locs cells slots mc ms R ls X hH hS hl)
theorem r_i2c {x : Int32} (hd : decode cc pc = .ok (.i2c, 1)) (k : AW g own cc nL ret nm d c n K (pc + 1) L (.int (x.toUInt32 % 65536).toInt32 :: rest) h) : AW g own cc nL ret nm d c n K pc L (.int x :: rest) h :=
  fun p e s m args below meth c1 H locs cells slots mc ms R ls X hH hS hl => lv_i2c X.1 X.2.1 hd rfl (k p e s m args below meth c1 H locs cells slots mc ms R ls X hH hS hl)
theorem r_lcmp {x y : Int64} (hd : decode cc pc = .ok (.lcmp, 1)) (k : AW g own cc nL ret nm d c n K (pc + 1) L (.int (lg_cmp x y) :: rest) h) : AW g own cc nL ret nm d c n K pc L (.long y :: .long x :: rest) h :=
  fun p e s m args below meth c1 H locs cells slots mc ms R ls X hH hS hl => W.lcmp X.1 X.2.1 hd  (k p e s m args below meth c1 H locs cells slots mc ms R ls X hH hS hl)
theorem r_dup {v : Value} (hd : decode cc pc = .ok (.dup, 1)) (hv : v.category = 1) (k : AW g own cc nL ret nm d c n K (pc + 1) L (v :: v :: rest) h) : AW g own cc nL ret nm d c n K pc L (v :: rest) h :=
  fun p e s m args below meth c1 H locs cells slots mc ms R ls X hH hS hl => lv_dup X.1 X.2.1 hd hv (k p e s m args below meth c1 H locs cells slots mc ms R ls X hH hS hl)
theorem r_dup2 {v u : Value} (hd : decode cc pc = .ok (.dup2, 1)) (hv : v.category = 1) (hu : u.category = 1) (k : AW g own cc nL ret nm d c n K (pc + 1) L (v :: u :: v :: u :: rest) h) : AW g own cc nL ret nm d c n K pc L (v :: u :: rest) h :=
  fun p e s m args below meth c1 H locs cells slots mc ms R ls X hH hS hl => lv_dup2_11 X.1 X.2.1 hd hv hu (k p e s m args below meth c1 H locs cells slots mc ms R ls X hH hS hl)
theorem r_pop {v : Value} (hd : decode cc pc = .ok (.pop, 1)) (hv : v.category = 1) (k : AW g own cc nL ret nm d c n K (pc + 1) L rest h) : AW g own cc nL ret nm d c n K pc L (v :: rest) h :=
  fun p e s m args below meth c1 H locs cells slots mc ms R ls X hH hS hl => lv_pop X.1 X.2.1 hd hv (k p e s m args below meth c1 H locs cells slots mc ms R ls X hH hS hl)
theorem r_if_eq {x : Int32} {off : Int} {tgt : Nat} (hd : decode cc pc = .ok (.ifCond .eq off, 3)) (ht : (pc : Int) + off = (tgt : Int)) (k1 : (x = 0) → AW g own cc nL ret nm d c n K tgt L rest h) (k2 : ¬ (x = 0) → AW g own cc nL ret nm d c n K (pc + 3) L rest h) : AW g own cc nL ret nm d c n K pc L (.int x :: rest) h :=
  fun p e s m args below meth c1 H locs cells slots mc ms R ls X hH hS hl => lv_if_eq X.1 X.2.1 hd ht (fun q => k1 q p e s m args below meth c1 H locs cells slots mc ms R ls X hH hS hl) (fun q => k2 q p e s m args below meth c1 H locs cells slots mc ms R ls X hH hS hl)
theorem r_icmp_eq {x y : Int32} {off : Int} {tgt : Nat} (hd : decode cc pc = .ok (.if_icmp .eq off, 3)) (ht : (pc : Int) + off = (tgt : Int)) (k1 : (x = y) → AW g own cc nL ret nm d c n K tgt L rest h) (k2 : ¬ (x = y) → AW g own cc nL ret nm d c n K (pc + 3) L rest h) : AW g own cc nL ret nm d c n K pc L (.int y :: .int x :: rest) h :=
  fun p e s m args below meth c1 H locs cells slots mc ms R ls X hH hS hl => lv_icmp_eq X.1 X.2.1 hd ht (fun q => k1 q p e s m args below meth c1 H locs cells slots mc ms R ls X hH hS hl) (fun q => k2 q p e s m args below meth c1 H locs cells slots mc ms R ls X hH hS hl)
theorem r_if_ne {x : Int32} {off : Int} {tgt : Nat} (hd : decode cc pc = .ok (.ifCond .ne off, 3)) (ht : (pc : Int) + off = (tgt : Int)) (k1 : (¬ x = 0) → AW g own cc nL ret nm d c n K tgt L rest h) (k2 : (x = 0) → AW g own cc nL ret nm d c n K (pc + 3) L rest h) : AW g own cc nL ret nm d c n K pc L (.int x :: rest) h :=
  fun p e s m args below meth c1 H locs cells slots mc ms R ls X hH hS hl => lv_if_ne X.1 X.2.1 hd ht (fun q => k1 q p e s m args below meth c1 H locs cells slots mc ms R ls X hH hS hl) (fun q => k2 q p e s m args below meth c1 H locs cells slots mc ms R ls X hH hS hl)
theorem r_icmp_ne {x y : Int32} {off : Int} {tgt : Nat} (hd : decode cc pc = .ok (.if_icmp .ne off, 3)) (ht : (pc : Int) + off = (tgt : Int)) (k1 : (¬ x = y) → AW g own cc nL ret nm d c n K tgt L rest h) (k2 : (x = y) → AW g own cc nL ret nm d c n K (pc + 3) L rest h) : AW g own cc nL ret nm d c n K pc L (.int y :: .int x :: rest) h :=
  fun p e s m args below meth c1 H locs cells slots mc ms R ls X hH hS hl => lv_icmp_ne X.1 X.2.1 hd ht (fun q => k1 q p e s m args below meth c1 H locs cells slots mc ms R ls X hH hS hl) (fun q => k2 q p e s m args below meth c1 H locs cells slots mc ms R ls X hH hS hl)
theorem r_if_lt {x : Int32} {off : Int} {tgt : Nat} (hd : decode cc pc = .ok (.ifCond .lt off, 3)) (ht : (pc : Int) + off = (tgt : Int)) (k1 : (x < 0) → AW g own cc nL ret nm d c n K tgt L rest h) (k2 : ¬ (x < 0) → AW g own cc nL ret nm d c n K (pc + 3) L rest h) : AW g own cc nL ret nm d c n K pc L (.int x :: rest) h :=
  fun p e s m args below meth c1 H locs cells slots mc ms R ls X hH hS hl => lv_if_lt X.1 X.2.1 hd ht (fun q => k1 q p e s m args below meth c1 H locs cells slots mc ms R ls X hH hS hl) (fun q => k2 q p e s m args below meth c1 H locs cells slots mc ms R ls X hH hS hl)
theorem r_icmp_lt {x y : Int32} {off : Int} {tgt : Nat} (hd : decode cc pc = .ok (.if_icmp .lt off, 3)) (ht : (pc : Int) + off = (tgt : Int)) (k1 : (x < y) → AW g own cc nL ret nm d c n K tgt L rest h) (k2 : ¬ (x < y) → AW g own cc nL ret nm d c n K (pc + 3) L rest h) : AW g own cc nL ret nm d c n K pc L (.int y :: .int x :: rest) h :=
  fun p e s m args below meth c1 H locs cells slots mc ms R ls X hH hS hl => lv_icmp_lt X.1 X.2.1 hd ht (fun q => k1 q p e s m args below meth c1 H locs cells slots mc ms R ls X hH hS hl) (fun q => k2 q p e s m args below meth c1 H locs cells slots mc ms R ls X hH hS hl)
theorem r_if_ge {x : Int32} {off : Int} {tgt : Nat} (hd : decode cc pc = .ok (.ifCond .ge off, 3)) (ht : (pc : Int) + off = (tgt : Int)) (k1 : (0 ≤ x) → AW g own cc nL ret nm d c n K tgt L rest h) (k2 : ¬ (0 ≤ x) → AW g own cc nL ret nm d c n K (pc + 3) L rest h) : AW g own cc nL ret nm d c n K pc L (.int x :: rest) h :=
  fun p e s m args below meth c1 H locs cells slots mc ms R ls X hH hS hl => lv_if_ge X.1 X.2.1 hd ht (fun q => k1 q p e s m args below meth c1 H locs cells slots mc ms R ls X hH hS hl) (fun q => k2 q p e s m args below meth c1 H locs cells slots mc ms R ls X hH hS hl)
theorem r_icmp_ge {x y : Int32} {off : Int} {tgt : Nat} (hd : decode cc pc = .ok (.if_icmp .ge off, 3)) (ht : (pc : Int) + off = (tgt : Int)) (k1 : (y ≤ x) → AW g own cc nL ret nm d c n K tgt L rest h) (k2 : ¬ (y ≤ x) → AW g own cc nL ret nm d c n K (pc + 3) L rest h) : AW g own cc nL ret nm d c n K pc L (.int y :: .int x :: rest) h :=
  fun p e s m args below meth c1 H locs cells slots mc ms R ls X hH hS hl => lv_icmp_ge X.1 X.2.1 hd ht (fun q => k1 q p e s m args below meth c1 H locs cells slots mc ms R ls X hH hS hl) (fun q => k2 q p e s m args below meth c1 H locs cells slots mc ms R ls X hH hS hl)
theorem r_if_gt {x : Int32} {off : Int} {tgt : Nat} (hd : decode cc pc = .ok (.ifCond .gt off, 3)) (ht : (pc : Int) + off = (tgt : Int)) (k1 : (0 < x) → AW g own cc nL ret nm d c n K tgt L rest h) (k2 : ¬ (0 < x) → AW g own cc nL ret nm d c n K (pc + 3) L rest h) : AW g own cc nL ret nm d c n K pc L (.int x :: rest) h :=
  fun p e s m args below meth c1 H locs cells slots mc ms R ls X hH hS hl => lv_if_gt X.1 X.2.1 hd ht (fun q => k1 q p e s m args below meth c1 H locs cells slots mc ms R ls X hH hS hl) (fun q => k2 q p e s m args below meth c1 H locs cells slots mc ms R ls X hH hS hl)
theorem r_icmp_gt {x y : Int32} {off : Int} {tgt : Nat} (hd : decode cc pc = .ok (.if_icmp .gt off, 3)) (ht : (pc : Int) + off = (tgt : Int)) (k1 : (y < x) → AW g own cc nL ret nm d c n K tgt L rest h) (k2 : ¬ (y < x) → AW g own cc nL ret nm d c n K (pc + 3) L rest h) : AW g own cc nL ret nm d c n K pc L (.int y :: .int x :: rest) h :=
  fun p e s m args below meth c1 H locs cells slots mc ms R ls X hH hS hl => lv_icmp_gt X.1 X.2.1 hd ht (fun q => k1 q p e s m args below meth c1 H locs cells slots mc ms R ls X hH hS hl) (fun q => k2 q p e s m args below meth c1 H locs cells slots mc ms R ls X hH hS hl)
theorem r_if_le {x : Int32} {off : Int} {tgt : Nat} (hd : decode cc pc = .ok (.ifCond .le off, 3)) (ht : (pc : Int) + off = (tgt : Int)) (k1 : (x ≤ 0) → AW g own cc nL ret nm d c n K tgt L rest h) (k2 : ¬ (x ≤ 0) → AW g own cc nL ret nm d c n K (pc + 3) L rest h) : AW g own cc nL ret nm d c n K pc L (.int x :: rest) h :=
  fun p e s m args below meth c1 H locs cells slots mc ms R ls X hH hS hl => lv_if_le X.1 X.2.1 hd ht (fun q => k1 q p e s m args below meth c1 H locs cells slots mc ms R ls X hH hS hl) (fun q => k2 q p e s m args below meth c1 H locs cells slots mc ms R ls X hH hS hl)
theorem r_icmp_le {x y : Int32} {off : Int} {tgt : Nat} (hd : decode cc pc = .ok (.if_icmp .le off, 3)) (ht : (pc : Int) + off = (tgt : Int)) (k1 : (x ≤ y) → AW g own cc nL ret nm d c n K tgt L rest h) (k2 : ¬ (x ≤ y) → AW g own cc nL ret nm d c n K (pc + 3) L rest h) : AW g own cc nL ret nm d c n K pc L (.int y :: .int x :: rest) h :=
  fun p e s m args below meth c1 H locs cells slots mc ms R ls X hH hS hl => lv_icmp_le X.1 X.2.1 hd ht (fun q => k1 q p e s m args below meth c1 H locs cells slots mc ms R ls X hH hS hl) (fun q => k2 q p e s m args below meth c1 H locs cells slots mc ms R ls X hH hS hl)
theorem r_goto {off : Int} {tgt : Nat} (hd : decode cc pc = .ok (.goto off, 3)) (ht : (pc : Int) + off = (tgt : Int)) (k : AW g own cc nL ret nm d c n K tgt L rest h) : AW g own cc nL ret nm d c n K pc L rest h :=
  fun p e s m args below meth c1 H locs cells slots mc ms R ls X hH hS hl => lv_goto X.1 X.2.1 hd ht (k p e s m args below meth c1 H locs cells slots mc ms R ls X hH hS hl)
theorem r_ifnullN {off : Int} {tgt : Nat} (hd : decode cc pc = .ok (.ifnull off, 3)) (ht : (pc : Int) + off = (tgt : Int)) (k : AW g own cc nL ret nm d c n K tgt L rest h) : AW g own cc nL ret nm d c n K pc L (.null :: rest) h :=
  fun p e s m args below meth c1 H locs cells slots mc ms R ls X hH hS hl => lv_ifnullN X.1 X.2.1 hd ht (k p e s m args below meth c1 H locs cells slots mc ms R ls X hH hS hl)
theorem r_ifnonnull {x : Nat} {off : Int} {tgt : Nat} (hd : decode cc pc = .ok (.ifnonnull off, 3)) (ht : (pc : Int) + off = (tgt : Int)) (k : AW g own cc nL ret nm d c n K tgt L rest h) : AW g own cc nL ret nm d c n K pc L (.ref x :: rest) h :=
  fun p e s m args below meth c1 H locs cells slots mc ms R ls X hH hS hl => lv_ifnonnull X.1 X.2.1 hd ht (k p e s m args below meth c1 H locs cells slots mc ms R ls X hH hS hl)
theorem r_ifnull {x : Nat} {off : Int} (hd : decode cc pc = .ok (.ifnull off, 3)) (k : AW g own cc nL ret nm d c n K (pc + 3) L rest h) : AW g own cc nL ret nm d c n K pc L (.ref x :: rest) h :=
  fun p e s m args below meth c1 H locs cells slots mc ms R ls X hH hS hl => lv_ifnull X.1 X.2.1 hd  (k p e s m args below meth c1 H locs cells slots mc ms R ls X hH hS hl)
theorem r_ifnonnullN {off : Int} (hd : decode cc pc = .ok (.ifnonnull off, 3)) (k : AW g own cc nL ret nm d c n K (pc + 3) L rest h) : AW g own cc nL ret nm d c n K pc L (.null :: rest) h :=
  fun p e s m args below meth c1 H locs cells slots mc ms R ls X hH hS hl => lv_ifnonnullN X.1 X.2.1 hd  (k p e s m args below meth c1 H locs cells slots mc ms R ls X hH hS hl)
theorem r_tabOut {dflt lo hi : Int} {offs : Array Int} {len : Nat} {x : Int32} {tgt : Nat} (hd : decode cc pc = .ok (.tableswitch dflt lo hi offs, len)) (h1 : x.toInt < lo ∨ hi < x.toInt) (ht : (pc : Int) + dflt = (tgt : Int)) (k : AW g own cc nL ret nm d c n K tgt L rest h) : AW g own cc nL ret nm d c n K pc L (.int x :: rest) h :=
  fun p e s m args below meth c1 H locs cells slots mc ms R ls X hH hS hl => lv_tableOut X.1 X.2.1 hd h1 ht (k p e s m args below meth c1 H locs cells slots mc ms R ls X hH hS hl)
theorem r_tabIn {dflt lo hi : Int} {offs : Array Int} {len : Nat} {x : Int32} {off : Int} {tgt : Nat} (hd : decode cc pc = .ok (.tableswitch dflt lo hi offs, len)) (h1 : ¬ x.toInt < lo) (h2 : ¬ hi < x.toInt) (ho : offs[(x.toInt - lo).toNat]? = some off) (ht : (pc : Int) + off = (tgt : Int)) (k : AW g own cc nL ret nm d c n K tgt L rest h) : AW g own cc nL ret nm d c n K pc L (.int x :: rest) h :=
  fun p e s m args below meth c1 H locs cells slots mc ms R ls X hH hS hl => lv_tableIn X.1 X.2.1 hd h1 h2 ho ht (k p e s m args below meth c1 H locs cells slots mc ms R ls X hH hS hl)
theorem r_look {dflt : Int} {ps : Array (Int × Int)} {len : Nat} {x : Int32} {off : Int} {tgt : Nat} (hd : decode cc pc = .ok (.lookupswitch dflt ps, len)) (hp : (ps.toList.zip (ps.toList.drop 1)).all (fun (a, next) => a.1 < next.1) = true) (ho : Op.lookupswitch.offset ps.toList dflt x.toInt = off) (ht : (pc : Int) + off = (tgt : Int)) (k : AW g own cc nL ret nm d c n K tgt L rest h) : AW g own cc nL ret nm d c n K pc L (.int x :: rest) h :=
  fun p e s m args below meth c1 H locs cells slots mc ms R ls X hH hS hl => lv_lookup X.1 X.2.1 hd hp ho ht (k p e s m args below meth c1 H locs cells slots mc ms R ls X hH hS hl)
theorem r_ldc {idx : Nat} {v : Int32} (hd : decode cc pc = .ok (.ldc idx, 2)) (hw : Cond.constant own idx v ∈ tb) (k : AW g own cc nL ret nm d c n K (pc + 2) L (.int v :: rest) h) : AW g own cc nL ret nm d c n K pc L rest h :=
  fun p e s m args below meth c1 H locs cells slots mc ms R ls X hH hS hl => lv_ldc X.1 X.2.1 X.2.2.2.2.2.2.1 (X.2.2.2.2.2.2.2.1 _ hw) hd (k p e s m args below meth c1 H locs cells slots mc ms R ls X hH hS hl)
theorem r_ldc2 {idx : Nat} {v : Int64} (hd : decode cc pc = .ok (.ldc2_w idx, 3)) (hw : Cond.constantLong own idx v ∈ tb) (k : AW g own cc nL ret nm d c n K (pc + 3) L (.long v :: rest) h) : AW g own cc nL ret nm d c n K pc L rest h :=
  fun p e s m args below meth c1 H locs cells slots mc ms R ls X hH hS hl => lv_ldc2 X.1 X.2.1 X.2.2.2.2.2.2.1 (X.2.2.2.2.2.2.2.1 _ hw) hd (k p e s m args below meth c1 H locs cells slots mc ms R ls X hH hS hl)
end R1
section R2
variable {g : GC} {own : String} {cc : ByteArray} {nL : Nat} {ret : Option FieldType} {nm : String} {d c n : Nat} {K : Option Value → hH → Prop} {pc : Nat} {L : List (Nat × Value)} {rest : List Value} {h : hH}
/-- where a field lies: class ci, slot k, by entry idx of own's pool -/
def FL (own : String) (idx ci k : Nat) : Prop := ∃ (C : String) (T : u_T) (N : Nat), vwCl[ci]? = some (C, T, N) ∧ k < N ∧ (∀ w ∈ u_ws C T N, w ∈ tb) ∧ Cond.fieldLink own idx (T k).1 (T k).2.1 (T k).2.2.1 ∈ tb
def FP (own : String) (idx ci k : Nat) (ty : FieldType) (fin : Bool) : Prop := ∃ (C : String) (T : u_T) (N : Nat) (ty0 : Nat → FieldType), vwCl[ci]? = some (C, T, N) ∧ k < N ∧ (∀ w ∈ u_ws C T N, w ∈ tb) ∧ Cond.fieldLink own idx (T k).1 (T k).2.1 (T k).2.2.1 ∈ tb ∧ (∀ k, k < N → parseFieldDescriptor (T k).2.2.1 = some (ty0 k)) ∧ (∀ a, a < N → ∀ b, b < N → a ≠ b → (T a).2.1 ≠ (T b).2.1) ∧ (T k).2.2.2 = fin ∧ parseFieldDescriptor (T k).2.2.1 = some ty ∧ (fin = true → (T k).1 = own)
theorem r_getf {a idx ci k : Nat} {fs : List Value} {v : Value} (hd : decode cc pc = .ok (.getfield idx, 3)) (hf : FL own idx ci k) (ha : h a = some (.inr (ci, fs))) (hv : fs[k]? = some v) (kk : AW g own cc nL ret nm d c n K (pc + 3) L (v :: rest) h) : AW g own cc nL ret nm d c n K pc L (.ref a :: rest) h := by
  intro p e s m args below meth c1 H locs cells slots mc ms R ls X hH hS hl
  obtain ⟨C, T, N, h1, h2, h3, h4⟩ := hf
  obtain ⟨ws, hP, hD, hi⟩ := id hH
  obtain ⟨q0, hq⟩ := HP.at hi ha
  exact va_get X.1 X.2.1 (Ts := tb) X.2.2.2.2.2.2.2.1 h3 X.2.2.2.2.2.2.1 X.2.2.2.2.2.2.2.2.2.1 hP q0 hq h1 k h2 (X.2.2.2.2.2.2.2.1 _ h4) (fun _ z => z) hv hd (kk p e s m args below meth c1 H locs cells slots mc ms R ls X hH hS hl)
theorem r_putf {a idx ci k : Nat} {fs : List Value} {v : Value} {ty : FieldType} (hd : decode cc pc = .ok (.putfield idx, 3)) (hf : FP own idx ci k ty false) (ha : h a = some (.inr (ci, fs))) (hn : narrow ty v = v) (hfit : fits ty v = true) (hk : k < fs.length) (kk : AW g own cc nL ret nm d c n K (pc + 3) L rest (hu h a (.inr (ci, fs.set k v)))) : AW g own cc nL ret nm d c n K pc L (v :: .ref a :: rest) h := by
  intro p e s m args below meth c1 H locs cells slots mc ms R ls X hH hS hl
  obtain ⟨C, T, N, ty0, h1, h2, h3, h4, h5, h6, h7, h8, -⟩ := hf
  obtain ⟨ws, hP, hD, hi⟩ := id hH
  obtain ⟨q0, hq⟩ := HP.at hi ha
  exact va_put X.1 X.2.1 (Ts := tb) X.2.2.2.2.2.2.2.1 h3 ty0 h5 h6 X.2.2.2.2.2.2.1 X.2.2.2.2.2.2.2.2.2.1 hP hD hS q0 hq h1 k h2 (X.2.2.2.2.2.2.2.1 _ h4) (fun _ z => z) h7 h8 hn hfit hk hd (fun H1 locs1 hP1 hD1 hS1 => kk p e s m args below meth c1 H1 locs1 cells slots mc ms R ls X (HP.set hD hi hq hP1 hD1) hS1 hl)
theorem r_putF {a idx ci k : Nat} {fs : List Value} {v : Value} {ty : FieldType} (hd : decode cc pc = .ok (.putfield idx, 3)) (hf : FP own idx ci k ty true) (hi0 : nm = "<init>") (ha : h a = some (.inr (ci, fs))) (hn : narrow ty v = v) (hfit : fits ty v = true) (hk : k < fs.length) (kk : AW g own cc nL ret nm d c n K (pc + 3) L rest (hu h a (.inr (ci, fs.set k v)))) : AW g own cc nL ret nm d c n K pc L (v :: .ref a :: rest) h := by
  intro p e s m args below meth c1 H locs cells slots mc ms R ls X hH hS hl
  obtain ⟨C, T, N, ty0, h1, h2, h3, h4, h5, h6, h7, h8, h9⟩ := hf
  obtain ⟨ws, hP, hD, hi⟩ := id hH
  obtain ⟨q0, hq⟩ := HP.at hi ha
  exact va_putF X.1 X.2.1 (Ts := tb) X.2.2.2.2.2.2.2.1 h3 ty0 h5 h6 X.2.2.2.2.2.2.1 X.2.2.2.2.2.2.2.2.2.1 hP hD hS q0 hq h1 k h2 (X.2.2.2.2.2.2.2.1 _ h4) (fun _ z => z) h7 (X.2.2.2.2.2.1.trans hi0) (h9 rfl) h8 hn hfit hk hd (fun H1 locs1 hP1 hD1 hS1 => kk p e s m args below meth c1 H1 locs1 cells slots mc ms R ls X (HP.set hD hi hq hP1 hD1) hS1 hl)
theorem r_iald {a N : Nat} {f : Nat → Int32} {i : Int32} (hd : decode cc pc = .ok (.iaload, 1)) (ha : h a = some (.inl (0, N, .inl f))) (hin : vp_in i N) (kk : AW g own cc nL ret nm d c n K (pc + 1) L (.int (f i.toNatClampNeg) :: rest) h) : AW g own cc nL ret nm d c n K pc L (.int i :: .ref a :: rest) h := by
  intro p e s m args below meth c1 H locs cells slots mc ms R ls X hH hS hl
  obtain ⟨ws, hP, hD, hi⟩ := id hH
  obtain ⟨q0, hq⟩ := HP.at hi ha
  exact va_iald X.1 X.2.1 X.2.2.2.2.2.2.2.2.2.1 hP q0 0 hq rfl hin hd (kk p e s m args below meth c1 H locs cells slots mc ms R ls X hH hS hl)
theorem r_bald {a N : Nat} {f : Nat → Int32} {i : Int32} (hd : decode cc pc = .ok (.baload, 1)) (ha : h a = some (.inl (1, N, .inl f))) (hin : vp_in i N) (kk : AW g own cc nL ret nm d c n K (pc + 1) L (.int (f i.toNatClampNeg) :: rest) h) : AW g own cc nL ret nm d c n K pc L (.int i :: .ref a :: rest) h := by
  intro p e s m args below meth c1 H locs cells slots mc ms R ls X hH hS hl
  obtain ⟨ws, hP, hD, hi⟩ := id hH
  obtain ⟨q0, hq⟩ := HP.at hi ha
  exact va_bald X.1 X.2.1 X.2.2.2.2.2.2.2.2.2.1 hP q0 1 hq rfl hin hd (kk p e s m args below meth c1 H locs cells slots mc ms R ls X hH hS hl)
theorem r_zald {a N : Nat} {f : Nat → Int32} {i : Int32} (hd : decode cc pc = .ok (.baload, 1)) (ha : h a = some (.inl (2, N, .inl f))) (hin : vp_in i N) (kk : AW g own cc nL ret nm d c n K (pc + 1) L (.int (f i.toNatClampNeg) :: rest) h) : AW g own cc nL ret nm d c n K pc L (.int i :: .ref a :: rest) h := by
  intro p e s m args below meth c1 H locs cells slots mc ms R ls X hH hS hl
  obtain ⟨ws, hP, hD, hi⟩ := id hH
  obtain ⟨q0, hq⟩ := HP.at hi ha
  exact va_zald X.1 X.2.1 X.2.2.2.2.2.2.2.2.2.1 hP q0 2 hq rfl hin hd (kk p e s m args below meth c1 H locs cells slots mc ms R ls X hH hS hl)
theorem r_iast {a N : Nat} {f : Nat → Int32} {i x : Int32} (hd : decode cc pc = .ok (.iastore, 1)) (ha : h a = some (.inl (0, N, .inl f))) (hin : vp_in i N) (kk : AW g own cc nL ret nm d c n K (pc + 1) L rest (hu h a (.inl (0, N, .inl (upd f i.toNatClampNeg x))))) : AW g own cc nL ret nm d c n K pc L (.int x :: .int i :: .ref a :: rest) h := by
  intro p e s m args below meth c1 H locs cells slots mc ms R ls X hH hS hl
  obtain ⟨ws, hP, hD, hi⟩ := id hH
  obtain ⟨q0, hq⟩ := HP.at hi ha
  exact va_iast X.1 X.2.1 X.2.2.2.2.2.2.2.2.2.1 hP hD hS q0 0 hq rfl hin hd (fun H1 locs1 hP1 hD1 hS1 => kk p e s m args below meth c1 H1 locs1 cells slots mc ms R ls X (HP.set (e1 := .inl (0, N, .inl (upd f i.toNatClampNeg x))) hD hi hq hP1 hD1) hS1 hl)
theorem r_bast {a N : Nat} {f : Nat → Int32} {i x : Int32} (hd : decode cc pc = .ok (.bastore, 1)) (ha : h a = some (.inl (1, N, .inl f))) (hin : vp_in i N) (kk : AW g own cc nL ret nm d c n K (pc + 1) L rest (hu h a (.inl (1, N, .inl (upd f i.toNatClampNeg (vp_nar .byte x)))))) : AW g own cc nL ret nm d c n K pc L (.int x :: .int i :: .ref a :: rest) h := by
  intro p e s m args below meth c1 H locs cells slots mc ms R ls X hH hS hl
  obtain ⟨ws, hP, hD, hi⟩ := id hH
  obtain ⟨q0, hq⟩ := HP.at hi ha
  exact va_bast X.1 X.2.1 X.2.2.2.2.2.2.2.2.2.1 hP hD hS q0 1 hq rfl hin hd (fun H1 locs1 hP1 hD1 hS1 => kk p e s m args below meth c1 H1 locs1 cells slots mc ms R ls X (HP.set (e1 := .inl (1, N, .inl (upd f i.toNatClampNeg (vp_nar .byte x)))) hD hi hq hP1 hD1) hS1 hl)
theorem r_zast {a N : Nat} {f : Nat → Int32} {i x : Int32} (hd : decode cc pc = .ok (.bastore, 1)) (ha : h a = some (.inl (2, N, .inl f))) (hin : vp_in i N) (kk : AW g own cc nL ret nm d c n K (pc + 1) L rest (hu h a (.inl (2, N, .inl (upd f i.toNatClampNeg (vp_nar .boolean x)))))) : AW g own cc nL ret nm d c n K pc L (.int x :: .int i :: .ref a :: rest) h := by
  intro p e s m args below meth c1 H locs cells slots mc ms R ls X hH hS hl
  obtain ⟨ws, hP, hD, hi⟩ := id hH
  obtain ⟨q0, hq⟩ := HP.at hi ha
  exact va_zast X.1 X.2.1 X.2.2.2.2.2.2.2.2.2.1 hP hD hS q0 2 hq rfl hin hd (fun H1 locs1 hP1 hD1 hS1 => kk p e s m args below meth c1 H1 locs1 cells slots mc ms R ls X (HP.set (e1 := .inl (2, N, .inl (upd f i.toNatClampNeg (vp_nar .boolean x)))) hD hi hq hP1 hD1) hS1 hl)
theorem r_alen {a t0 : Nat} {x : vp_A} {ty : FieldType} (hd : decode cc pc = .ok (.arraylength, 1)) (ha : h a = some (.inl (t0, x))) (ht : (tys (gA g))[t0]? = some (gA g t0, ty)) (kk : AW g own cc nL ret nm d c n K (pc + 1) L (.int (Int32.ofNat x.1) :: rest) h) : AW g own cc nL ret nm d c n K pc L (.ref a :: rest) h := by
  intro p e s m args below meth c1 H locs cells slots mc ms R ls X hH hS hl
  obtain ⟨ws, hP, hD, hi⟩ := id hH
  obtain ⟨q0, hq⟩ := HP.at hi ha
  exact va_alen X.1 X.2.1 X.2.2.2.2.2.2.2.2.2.1 hP q0 t0 hq ht rfl hd (kk p e s m args below meth c1 H locs cells slots mc ms R ls X hH hS hl)
theorem r_aald {a t0 N : Nat} {f : Nat → Option Nat} {C : String} {i : Int32} {v : Value} (hd : decode cc pc = .ok (.aaload, 1)) (ha : h a = some (.inl (t0, N, .inr (.inr (.inr (.inr f)))))) (ht : (tys (gA g))[t0]? = some (gA g t0, .object C)) (hin : vp_in i N) (hv : va_rf (f i.toNatClampNeg) = v) (kk : AW g own cc nL ret nm d c n K (pc + 1) L (v :: rest) h) : AW g own cc nL ret nm d c n K pc L (.int i :: .ref a :: rest) h := by
  intro p e s m args below meth c1 H locs cells slots mc ms R ls X hH hS hl
  obtain ⟨ws, hP, hD, hi⟩ := id hH
  obtain ⟨q0, hq⟩ := HP.at hi ha
  subst hv
  exact va_aldq X.1 X.2.1 X.2.2.2.2.2.2.2.2.2.1 hP q0 t0 hq ht hin hd (kk p e s m args below meth c1 H locs cells slots mc ms R ls X hH hS hl)
theorem r_aast {a b t0 ci N : Nat} {f : Nat → Option Nat} {r : vw_C} {vs : List Value} {i : Int32} (hd : decode cc pc = .ok (.aastore, 1)) (ha : h a = some (.inl (t0, N, .inr (.inr (.inr (.inr f)))))) (ht : (tys (gA g))[t0]? = some (gA g t0, .object r.1)) (hb : h b = some (.inr (ci, vs))) (hc : vwCl[ci]? = some r) (hin : vp_in i N) (kk : AW g own cc nL ret nm d c n K (pc + 1) L rest (hu h a (.inl (t0, N, .inr (.inr (.inr (.inr (va_up f i.toNatClampNeg (some b))))))))) : AW g own cc nL ret nm d c n K pc L (.ref b :: .int i :: .ref a :: rest) h := by
  intro p e s m args below meth c1 H locs cells slots mc ms R ls X hH hS hl
  obtain ⟨ws, hP, hD, hi⟩ := id hH
  obtain ⟨q0, hq⟩ := HP.at hi ha
  obtain ⟨qk, hqk⟩ := HP.at hi hb
  exact va_astq X.1 X.2.1 X.2.2.2.2.2.2.2.2.2.1 hP hD hS q0 t0 qk ci hq ht hqk hc hin hd (fun H1 locs1 hP1 hD1 hS1 => kk p e s m args below meth c1 H1 locs1 cells slots mc ms R ls X (HP.set (e1 := .inl (t0, N, .inr (.inr (.inr (.inr (va_up f i.toNatClampNeg (some b))))))) hD hi hq hP1 hD1) hS1 hl)
theorem r_newa {atype : ArrayType} {t0 N : Nat} {ty : FieldType} {z : Int32} {a0 : vp_A} (hd : decode cc pc = .ok (.newarray atype, 2)) (hw : Cond.arrayClass (newarray.typeOf atype) ∈ tb) (hty : newarray.typeOf atype = ty) (ht : (tys (gA g))[t0]? = some (gA g t0, ty)) (hobj : ∀ C, ty ≠ .object C) (ha : ∀ cA : ClassId, vp_cell cA a0 = arrV cA N (fun _ => defaultValue ty)) (hz : ¬ z < 0) (hN : z.toNatClampNeg = N) (hbytes : N * componentBytes ty ≤ 536870912) (h1 : 1 ≤ c) (h2 : N ≤ n)
    (kk : ∀ q : Nat, h q = none → AW g own cc nL ret nm d (c - 1) (n - N) K (pc + 2) L (.ref q :: rest) (hu h q (.inl (t0, a0)))) : AW g own cc nL ret nm d c n K pc L (.int z :: rest) h := by
  intro p e s m args below meth c1 H locs cells slots mc ms R ls X hH hS hl
  obtain ⟨ws, hP, hD, hi⟩ := id hH
  obtain ⟨x1, x2, x3, x4, x5, x6, x7, x8, x9, x10, x11, x12, x13, x14, x15, x16, x17, x18⟩ := X
  refine va_newa (atype := atype) x1 x2 (x8 _ hw) hty x10 hP hD hS (fun q hq => Nat.le_trans x12 hq) ha hz hN hbytes (by omega) (by omega) hd (fun q cA H1 hK1 hP1 hD1 hS1 => ?_)
  have hcA : cA = gA g t0 := by
    have e1 := (hK1.2 (tys (gA g)).length (cA, ty) (by simp)).2
    have e2 := (x10.2 t0 _ ht).2
    cases ty with
    | object C => exact absurd rfl (hobj C)
    | _ => exact Option.some.inj (Eq.trans (Eq.symm e1) e2)
  subst hcA
  obtain ⟨hn, hH1⟩ := HP.push (e1 := .inl (t0, a0)) hi hP1 hD1
  exact kk q hn p e s m args below meth c1 H1 locs (cells + 1) (slots + N) mc ms R ls ⟨x1, x2, x3, x4, x5, x6, x7, x8, x9, x10, x11, x12, by omega, by omega, x15, x16, x17, x18⟩ hH1 hS1 hl
/-- a class that is made: its entry, its fields at first -/
def NW (own : String) (idx ci N : Nat) (fs : List Value) : Prop := ∃ (C : String) (T : u_T) (ty : Nat → FieldType), vwCl[ci]? = some (C, T, N) ∧ (∀ w ∈ u_ws C T N, w ∈ tb) ∧ (∀ k, k < N → parseFieldDescriptor (T k).2.2.1 = some (ty k)) ∧ Cond.classLink own idx C ∈ tb ∧ Cond.instantiable C N ∈ tb ∧ Cond.initialized C ∈ tb ∧ ∀ j, j < N → defaultValue (ty j) = vp_V fs j
theorem r_new {idx ci N : Nat} {fs : List Value} (hd : decode cc pc = .ok (.new idx, 3)) (hw : NW own idx ci N fs) (h1 : 1 ≤ c) (h2 : N ≤ n)
    (kk : ∀ q : Nat, h q = none → AW g own cc nL ret nm d (c - 1) (n - N) K (pc + 3) L (.ref q :: rest) (hu h q (.inr (ci, fs)))) : AW g own cc nL ret nm d c n K pc L rest h := by
  intro p e s m args below meth c1 H locs cells slots mc ms R ls X hH hS hl
  obtain ⟨ws, hP, hD, hi⟩ := id hH
  obtain ⟨x1, x2, x3, x4, x5, x6, x7, x8, x9, x10, x11, x12, x13, x14, x15, x16, x17, x18⟩ := X
  obtain ⟨C, T, ty, w1, w2, w3, w4, w5, w6, w7⟩ := hw
  refine va_new x1 x2 (Ts := tb) x8 w2 ty w3 x7 (x8 _ w4) (x8 _ w5) (x8 _ w6) x10 hP hD hS (fun q hq => Nat.le_trans x12 hq) w1 w7 (by omega) (by omega) hd (fun q H1 hP1 hD1 hS1 => ?_)
  obtain ⟨hn, hH1⟩ := HP.push (e1 := .inr (ci, fs)) hi hP1 hD1
  exact kk q hn p e s m args below meth c1 H1 locs (cells + 1) (slots + N) mc ms R ls ⟨x1, x2, x3, x4, x5, x6, x7, x8, x9, x10, x11, x12, by omega, by omega, x15, x16, x17, x18⟩ hH1 hS1 hl
theorem r_iret {x : Int32} {ty : FieldType} (hd : decode cc pc = .ok (.ireturn, 1)) (hr : ret = some ty) (hn : narrow ty (.int x) = .int x) (hk : K (some (.int x)) h) : AW g own cc nL ret nm d c n K pc L [.int x] h := by
  intro p e s m args below meth c1 H locs cells slots mc ms R ls X hH hS hl
  obtain ⟨x1, x2, x3, x4, x5, x6, x7, x8, x9, x10, x11, x12, x13, x14, x15, x16, x17, x18⟩ := X
  refine W.widen (k := mc) (n := ms) (by omega) (by omega) ?_
  exact W.zret x1 x2 (x4.trans hr) hn (fun t ht hW => ⟨⟨_, h, rfl, hk, by rw [ht]; exact hH⟩, hS.F ht⟩) hS.2.2 hd x5
theorem r_lret {x : Int64} (hd : decode cc pc = .ok (.lreturn, 1)) (hr : ret = some .long) (hk : K (some (.long x)) h) : AW g own cc nL ret nm d c n K pc L [.long x] h := by
  intro p e s m args below meth c1 H locs cells slots mc ms R ls X hH hS hl
  obtain ⟨x1, x2, x3, x4, x5, x6, x7, x8, x9, x10, x11, x12, x13, x14, x15, x16, x17, x18⟩ := X
  refine W.widen (k := mc) (n := ms) (by omega) (by omega) ?_
  exact W.lret x1 x2 (x4.trans hr) (fun t ht hW => ⟨⟨_, h, rfl, hk, by rw [ht]; exact hH⟩, hS.F ht⟩) hS.2.2 hd x5
theorem r_aret {v : Value} {rt : FieldType} (hd : decode cc pc = .ok (.areturn, 1)) (hr : ret = some rt) (hrt : (∃ n, rt = .object n) ∨ ∃ t, rt = .array t) (hv : v = .null ∨ ∃ a, v = .ref a) (hk : K (some v) h) : AW g own cc nL ret nm d c n K pc L [v] h := by
  intro p e s m args below meth c1 H locs cells slots mc ms R ls X hH hS hl
  obtain ⟨x1, x2, x3, x4, x5, x6, x7, x8, x9, x10, x11, x12, x13, x14, x15, x16, x17, x18⟩ := X
  refine W.widen (k := mc) (n := ms) (by omega) (by omega) ?_
  exact W.aret x1 x2 (x4.trans hr) hrt hv (fun t ht hW => ⟨⟨_, h, rfl, hk, by rw [ht]; exact hH⟩, hS.F ht⟩) hS.2.2 hd x5
theorem r_vret (hd : decode cc pc = .ok (.return_, 1)) (hr : ret = none) (hk : K none h) : AW g own cc nL ret nm d c n K pc L [] h := by
  intro p e s m args below meth c1 H locs cells slots mc ms R ls X hH hS hl
  obtain ⟨x1, x2, x3, x4, x5, x6, x7, x8, x9, x10, x11, x12, x13, x14, x15, x16, x17, x18⟩ := X
  refine W.widen (k := mc) (n := ms) (by omega) (by omega) ?_
  exact W.vret x1 x2 (x4.trans hr) (fun t ht hW => ⟨⟨_, h, rfl, hk, by rw [ht]; exact hH⟩, hS.F ht⟩) hS.2.2 hd x5
/-- a method's contract out of its body's walk -/
theorem AM.of {y : MethodName} {maxL : Nat} {args0 : List Value} {L0 : List (Nat × Value)} (hy : plainName y.cls = true) (hl0 : (lg_sl args0).length ≤ maxL) (hL : lv_args 0 args0 = L0) (k : AW g y.cls cc maxL ret y.name d c n K 0 L0 [] h) : AM g d c n y cc maxL ret args0 h K := by
  refine Met.ofW (cc := cc) (maxL := maxL) (ret := ret) hy rfl ?_
  intro p e s m args below meth c1 s₁ B hml hv
  obtain ⟨rfl, hRok, hK, hR, hN, hH⟩ := hv
  have hts := atoms_spec (ws := .code y cc maxL ret :: tb) B.pre
  have hl := lv_entry args0 (n := maxL) hl0
  rw [hL] at hl
  rw [lg_entry_eq]
  exact k p e s m _ below meth c1 s.heap [] 0 0 c n _ _ ⟨B.exec, B.bytes, hml, B.returns, B.notSynchronized, (name_of_methodNamed B.named B.method).1, findClass_of_methodNamed B.named, fun w hw => hts w (List.mem_cons_of_mem _ hw), hRok, hK, hR, hN, by omega, by omega, Nat.le_refl _, Nat.le_refl _, Nat.le_refl _, Nat.le_refl _⟩ hH va_S.rf hl
/-- what a callee says comes to its caller -/
theorem r_back {p : Program} {e : Env} {s : State} {m : MethodId} {args : Array Value} {below : List Frame} {meth : Method} {c' : Code} {H : Heap} {locs : List Loc} {cells slots mc ms : Nat} {R : Room} {ls : Array Slot} {Q : State → Prop} {st0 : List Value} {a : Array Value}
    (hr : va_Run p (gl g) e R s m args below meth c' H locs cells slots mc ms (F0 m pc ls st0) rest (Qk g K a) (fun q => gN g ≤ q)) (hS : va_S (fun q => gN g ≤ q) s.heap H locs)
    (kk : ∀ (v : Option Value) (h' : hH) (H1 : Heap) (locs1 : List Loc), K v h' → HP g h' H1 → va_S (fun q => gN g ≤ q) s.heap H1 locs1 → W p (gl g) e R s m args below meth c' H1 locs1 (cells + mc) (slots + ms) Q (F0 m (pc + 3) ls (v.toList ++ rest))) : W p (gl g) e R s m args below meth c' H locs cells slots Q (F0 m pc ls st0) := by
  intro T hT X
  obtain ⟨v, st₀, t, T', L9, h0, X', hL, e1, e2, ⟨⟨v', h', hv, hp, hb⟩, hz, hk⟩, st⟩ := hr T hT X
  cases hv
  rw [h0] at hz hk
  obtain ⟨t2, a1, b1⟩ := kk v h' T'.heap (locs ++ L9) hp (by rw [e1]; exact hb)
    ⟨Nat.le_trans hS.1 (by rw [e1]; exact hz), fun q h1 h2 => by rw [e1, hk q (Nat.lt_of_lt_of_le h1 hS.1) h2]; exact hS.2.1 q h1 h2, fun q hq => by
      rcases List.mem_append.mp hq with h | h
      · exact hS.2.2 q h
      · exact hL q h⟩ T' rfl X'
  exact ⟨t2, st t2 a1, b1⟩
/-- a callee's words: by invokevirtual, by invokestatic, a constructor's -/
def MV (y : MethodName) (cy : ByteArray) (maxL : Nat) (rt : Option FieldType) (k : Nat) : Prop := Cond.instanceMethod y ∈ tb ∧ Cond.selects y.cls y y ∈ tb ∧ Cond.initialized y.cls ∈ tb ∧ Cond.code y cy maxL rt ∈ tb ∧ (y.cls ≠ "java/lang/invoke/MethodHandle" ∧ y.cls ≠ "java/lang/invoke/VarHandle" ∧ (parseMethodDescriptor y.desc).map (fun d => d.parameters.length) = some k) ∧ maxL ≤ 40
def MS (y : MethodName) (cy : ByteArray) (maxL : Nat) (rt : Option FieldType) (k : Nat) : Prop := Cond.static y ∈ tb ∧ Cond.initialized y.cls ∈ tb ∧ Cond.code y cy maxL rt ∈ tb ∧ (y.cls ≠ "java/lang/invoke/MethodHandle" ∧ y.cls ≠ "java/lang/invoke/VarHandle" ∧ (parseMethodDescriptor y.desc).map (fun d => d.parameters.length) = some k) ∧ maxL ≤ 40
def MI (y : MethodName) (cy : ByteArray) (maxL : Nat) (k : Nat) : Prop := y.name = "<init>" ∧ Cond.instanceMethod y ∈ tb ∧ Cond.initialized y.cls ∈ tb ∧ Cond.code y cy maxL none ∈ tb ∧ (y.cls ≠ "java/lang/invoke/MethodHandle" ∧ y.cls ≠ "java/lang/invoke/VarHandle" ∧ (parseMethodDescriptor y.desc).map (fun d => d.parameters.length) = some k) ∧ maxL ≤ 40
theorem Pk.blind {av : List Value} : FrameBlind (va_Pc av (Pk g h)) := by
  intro a U gg mk q
  obtain ⟨q0, q1, qK, qR, qN, qH⟩ := q
  exact ⟨q0, q1, va_K.moved (u := U) (U := U.calling gg mk a) (Vm.Alike.refl U.vm) qK, q1 U _ (State.WarmedH.refl U) (fun _ _ => rfl) qR, qN, qH⟩
theorem Pk.call {s U : State} {H : Heap} {locs : List Loc} (x9 : Rok g) (x10 : va_K (gD g) vwCl (tys (gA g)) s) (x11 : gR g s) (x12 : gN g ≤ s.heap.size) (hH : HP g h H) (hS : va_S (fun q => gN g ≤ q) s.heap H locs) (hU : U.heap = H) (hW : s.WarmedH U.vm) : Pk g h U :=
  ⟨x9, va_K.moved hW.alike x10, x9 s U hW (fun q hq => by rw [hU]; exact hS.2.1 q (Nat.lt_of_lt_of_le hq x12) (Nat.not_le.mpr hq)) x11, by rw [hU]; exact Nat.le_trans x12 hS.1, by rw [hU]; exact hH⟩
theorem GoodIn.tb {ws : List Cond} (hw : ∀ w ∈ ws, w ∈ tb) : GoodIn tb ws := fun w h => tb_good w (hw w h)
theorem r_callV {y : MethodName} {cy : ByteArray} {maxL k0 idx b d1 c1 n1 ci : Nat} {rt : Option FieldType} {As st0 : List Value} {K1 : Option Value → hH → Prop} {fs : List Value} {q : vw_C} (hd : decode cc pc = .ok (.invokevirtual idx, 3)) (hm : MV y cy maxL rt k0) (hl : Cond.methodLink own idx y ∈ tb) (hA : AM g d1 c1 n1 y cy maxL rt (.ref b :: As) h K1) (hb : h b = some (.inr (ci, fs))) (hc : vwCl[ci]? = some q) (hq : q.1 = y.cls) (hk : As.length = k0) (hst : st0 = As.reverse ++ .ref b :: rest) (hcat : (rest.map fun v => v.category).sum ≤ 8) (hd1 : d1 + 1 ≤ d) (hc1 : c1 ≤ c) (hn1 : n1 ≤ n)
    (kk : ∀ v h', K1 v h' → AW g own cc nL ret nm d (c - c1) (n - n1) K (pc + 3) L (v.toList ++ rest) h') : AW g own cc nL ret nm d c n K pc L st0 h := by
  intro p e s m args below meth c' H locs cells slots mc ms R ls X hH hS hl'
  obtain ⟨x1, x2, x3, x4, x5, x6, x7, x8, x9, x10, x11, x12, x13, x14, x15, x16, x17, x18⟩ := X
  obtain ⟨m1, m2, m3, m4, m5, m6⟩ := hm
  obtain ⟨ws, hP, hD, hi⟩ := id hH
  obtain ⟨q0, hq0⟩ := HP.at hi hb
  have hG : GoodIn tb (wsV own idx y.cls y (.code y cy maxL rt :: tb)) := GoodIn.tb (fun w hw => by
    simp only [wsV, List.cons_append, List.nil_append, List.mem_cons] at hw
    rcases hw with rfl | rfl | rfl | rfl | rfl | hw <;> assumption)
  have cw := cwV (R := R) (bytes := cy) (maxL := maxL) (ret := rt) (rm := { frames := d1, cells := c1, slots := n1, locals := 64 * d1 }) (mc := c1) (ms := n1) k0 x8 hG rfl rfl rfl ⟨rfl, m5⟩ ⟨Nat.le_trans hd1 x17, by show 8 + (maxL + 11) + 64 * d1 ≤ R.locals; omega⟩
  have hrec := va_recv x10 hP hc hq0
  rw [hq] at hrec
  refine r_back (va_runV (As := As) (rest := rest) (b := b) ⟨x1, x2, x3, x7, x8⟩ hA cw ⟨Pk.blind, hrec, fun U hU hW => ⟨rfl, Pk.call x9 x10 x11 x12 hH hS hU hW⟩⟩ rfl hk hl'.1 hst (lv_room hcat) hd ⟨by omega, by omega⟩) hS (fun v h' H1 locs1 hv hH1 hS1 => ?_)
  exact kk v h' hv p e s m args below meth c' H1 locs1 (cells + c1) (slots + n1) mc ms R ls ⟨x1, x2, x3, x4, x5, x6, x7, x8, x9, x10, x11, x12, by omega, by omega, x15, x16, x17, x18⟩ hH1 hS1 hl'
theorem r_callS {y : MethodName} {cy : ByteArray} {maxL k0 idx d1 c1 n1 : Nat} {rt : Option FieldType} {As st0 : List Value} {K1 : Option Value → hH → Prop} (hd : decode cc pc = .ok (.invokestatic idx, 3)) (hm : MS y cy maxL rt k0) (hl : Cond.methodLink own idx y ∈ tb) (hA : AM g d1 c1 n1 y cy maxL rt As h K1) (hk : As.length = k0) (hst : st0 = As.reverse ++ rest) (hcat : (rest.map fun v => v.category).sum ≤ 8) (hd1 : d1 + 1 ≤ d) (hc1 : c1 ≤ c) (hn1 : n1 ≤ n)
    (kk : ∀ v h', K1 v h' → AW g own cc nL ret nm d (c - c1) (n - n1) K (pc + 3) L (v.toList ++ rest) h') : AW g own cc nL ret nm d c n K pc L st0 h := by
  intro p e s m args below meth c' H locs cells slots mc ms R ls X hH hS hl'
  obtain ⟨x1, x2, x3, x4, x5, x6, x7, x8, x9, x10, x11, x12, x13, x14, x15, x16, x17, x18⟩ := X
  obtain ⟨m1, m3, m4, m5, m6⟩ := hm
  have hG : GoodIn tb (va_wsS own idx y (.code y cy maxL rt :: tb)) := GoodIn.tb (fun w hw => by
    simp only [va_wsS, List.cons_append, List.nil_append, List.mem_cons] at hw
    rcases hw with rfl | rfl | rfl | rfl | hw <;> assumption)
  have cw := va_cwS (R := R) (bytes := cy) (maxL := maxL) (ret := rt) (rm := { frames := d1, cells := c1, slots := n1, locals := 64 * d1 }) (mc := c1) (ms := n1) k0 x8 hG rfl rfl rfl m5 ⟨Nat.le_trans hd1 x17, by show 8 + (maxL + 11) + 64 * d1 ≤ R.locals; omega⟩
  refine r_back (va_runS (As := As) (rest := rest) ⟨x1, x2, x3, x7, x8⟩ hA cw ⟨Pk.blind, fun U hU hW => ⟨rfl, Pk.call x9 x10 x11 x12 hH hS hU hW⟩⟩ rfl hk hl'.1 hst (lv_room hcat) hd ⟨by omega, by omega⟩) hS (fun v h' H1 locs1 hv hH1 hS1 => ?_)
  exact kk v h' hv p e s m args below meth c' H1 locs1 (cells + c1) (slots + n1) mc ms R ls ⟨x1, x2, x3, x4, x5, x6, x7, x8, x9, x10, x11, x12, by omega, by omega, x15, x16, x17, x18⟩ hH1 hS1 hl'
theorem r_callI {y : MethodName} {cy : ByteArray} {maxL k0 idx b d1 c1 n1 : Nat} {As st0 : List Value} {K1 : Option Value → hH → Prop} (hd : decode cc pc = .ok (.invokespecial idx, 3)) (hm : MI y cy maxL k0) (hl : Cond.methodLink own idx y ∈ tb) (hA : AM g d1 c1 n1 y cy maxL none (.ref b :: As) h K1) (hk : As.length = k0) (hst : st0 = As.reverse ++ .ref b :: rest) (hcat : (rest.map fun v => v.category).sum ≤ 8) (hd1 : d1 + 1 ≤ d) (hc1 : c1 ≤ c) (hn1 : n1 ≤ n)
    (kk : ∀ v h', K1 v h' → AW g own cc nL ret nm d (c - c1) (n - n1) K (pc + 3) L (v.toList ++ rest) h') : AW g own cc nL ret nm d c n K pc L st0 h := by
  intro p e s m args below meth c' H locs cells slots mc ms R ls X hH hS hl'
  obtain ⟨x1, x2, x3, x4, x5, x6, x7, x8, x9, x10, x11, x12, x13, x14, x15, x16, x17, x18⟩ := X
  obtain ⟨m0, m1, m3, m4, m5, m6⟩ := hm
  have hG : GoodIn tb (.code y cy maxL none :: tb) := GoodIn.tb (fun w hw => by
    simp only [List.mem_cons] at hw
    rcases hw with rfl | hw <;> assumption)
  have cb := callB_of (R := R) (own := own) (index := idx) (y := y) (bytes := cy) (maxL := maxL) (ret := none) (rm := { frames := d1, cells := c1, slots := n1, locals := 64 * d1 }) (mc := c1) (ms := n1) k0 x8 hG rfl rfl rfl (x8 _ m3) (x8 _ hl) m5 ⟨Nat.le_trans hd1 x17, by show 8 + (maxL + 11) + 64 * d1 ≤ R.locals; omega⟩
  refine r_back (va_runI (As := As) (rest := rest) (b := b) ⟨x1, x2, x3, x7, x8⟩ hA ⟨cb, m0, x8 _ m1⟩ ⟨Pk.blind, fun U hU hW => ⟨rfl, Pk.call x9 x10 x11 x12 hH hS hU hW⟩⟩ rfl hk hl'.1 hst (lv_room hcat) hd ⟨by omega, by omega⟩) hS (fun v h' H1 locs1 hv hH1 hS1 => ?_)
  exact kk v h' hv p e s m args below meth c' H1 locs1 (cells + c1) (slots + n1) mc ms R ls ⟨x1, x2, x3, x4, x5, x6, x7, x8, x9, x10, x11, x12, by omega, by omega, x15, x16, x17, x18⟩ hH1 hS1 hl'
theorem r_objI {idx b : Nat} (hd : decode cc pc = .ok (.invokespecial idx, 3)) (hl : Cond.methodLink own idx Lib.objectInit ∈ tb) (hi : Cond.instanceMethod Lib.objectInit ∈ tb) (hc : Cond.code Lib.objectInit ⟨#[0xb1]⟩ 1 none ∈ tb) (hcat : (rest.map fun v => v.category).sum ≤ 8) (hd1 : 1 ≤ d) (kk : AW g own cc nL ret nm d c n K (pc + 3) L rest h) : AW g own cc nL ret nm d c n K pc L (.ref b :: rest) h := by
  intro p e s m args below meth c' H locs cells slots mc ms R ls X hH hS hl'
  obtain ⟨x1, x2, x3, x4, x5, x6, x7, x8, x9, x10, x11, x12, x13, x14, x15, x16, x17, x18⟩ := id X
  exact W.objInit (g := F0 m pc ls (.ref b :: rest)) x1 x2 x7 (x8 _ hl) (x8 _ hi) (x8 _ hc) rfl (hl'.1.trans x3.symm) rfl hd (by omega) (by show 2 * 0 + _ + 12 ≤ _; omega) (kk p e s m args below meth c' H locs cells slots mc ms R ls X hH hS hl')
end R2
end
