section
-- ===== PART A: goes FIRST, ahead of the names: the tables' words, and 'selects' of the private methods out of them =====
/-- a private method of a class that the tables say can be made, by its rows of tables_1 -/
def lw_okq (q : MethodName × Nat) : Prop := (q.1.cls ≠ "java/lang/invoke/MethodHandle" ∧ q.1.cls ≠ "java/lang/invoke/VarHandle") ∧ Cond.instantiable q.1.cls q.2 ∈ tables_1 ∧ Cond.privateMethod q.1 ∈ tables_1 ∧ Cond.instanceMethod q.1 ∈ tables_1
theorem lw_p0 : lw_okq (⟨"java/lang/Throwable", "fillInStackTrace", "(I)Ljava/lang/Throwable;"⟩, 6) := ⟨⟨by decide +kernel, by decide +kernel⟩, List.mem_of_getElem? (i := 238) (by decide +kernel), List.mem_of_getElem? (i := 236) (by decide +kernel), List.mem_of_getElem? (i := 237) (by decide +kernel)⟩
theorem lw_p1 : lw_okq (⟨"BaulkHall", "tableAt", "(I)LBaulkHall$Table;"⟩, 16) := ⟨⟨by decide +kernel, by decide +kernel⟩, List.mem_of_getElem? (i := 20) (by decide +kernel), List.mem_of_getElem? (i := 277) (by decide +kernel), List.mem_of_getElem? (i := 278) (by decide +kernel)⟩
theorem lw_p2 : lw_okq (⟨"BaulkHall", "rentsAny", "(I)Z"⟩, 16) := ⟨⟨by decide +kernel, by decide +kernel⟩, List.mem_of_getElem? (i := 20) (by decide +kernel), List.mem_of_getElem? (i := 301) (by decide +kernel), List.mem_of_getElem? (i := 302) (by decide +kernel)⟩
theorem lw_p3 : lw_okq (⟨"BaulkHall", "rentedTables", "()I"⟩, 16) := ⟨⟨by decide +kernel, by decide +kernel⟩, List.mem_of_getElem? (i := 20) (by decide +kernel), List.mem_of_getElem? (i := 352) (by decide +kernel), List.mem_of_getElem? (i := 353) (by decide +kernel)⟩
theorem lw_p4 : lw_okq (⟨"BaulkHall", "endRental", "(LBaulkHall$Table;)I"⟩, 16) := ⟨⟨by decide +kernel, by decide +kernel⟩, List.mem_of_getElem? (i := 20) (by decide +kernel), List.mem_of_getElem? (i := 364) (by decide +kernel), List.mem_of_getElem? (i := 365) (by decide +kernel)⟩
theorem lw_p5 : lw_okq (⟨"BaulkHall", "addDebt", "(II)V"⟩, 16) := ⟨⟨by decide +kernel, by decide +kernel⟩, List.mem_of_getElem? (i := 20) (by decide +kernel), List.mem_of_getElem? (i := 375) (by decide +kernel), List.mem_of_getElem? (i := 376) (by decide +kernel)⟩
theorem lw_p6 : lw_okq (⟨"BaulkHall", "takeFrameOff", "(LBaulkHall$Table;)V"⟩, 16) := ⟨⟨by decide +kernel, by decide +kernel⟩, List.mem_of_getElem? (i := 20) (by decide +kernel), List.mem_of_getElem? (i := 379) (by decide +kernel), List.mem_of_getElem? (i := 380) (by decide +kernel)⟩
theorem lw_p7 : lw_okq (⟨"BaulkHall", "openTables", "()I"⟩, 16) := ⟨⟨by decide +kernel, by decide +kernel⟩, List.mem_of_getElem? (i := 20) (by decide +kernel), List.mem_of_getElem? (i := 403) (by decide +kernel), List.mem_of_getElem? (i := 404) (by decide +kernel)⟩
theorem lw_p8 : lw_okq (⟨"BaulkHall", "putFrameOn", "(LBaulkHall$Frame;LBaulkHall$Table;I)V"⟩, 16) := ⟨⟨by decide +kernel, by decide +kernel⟩, List.mem_of_getElem? (i := 20) (by decide +kernel), List.mem_of_getElem? (i := 492) (by decide +kernel), List.mem_of_getElem? (i := 493) (by decide +kernel)⟩
theorem lw_p9 : lw_okq (⟨"BaulkHall", "frameAt", "(I)LBaulkHall$Frame;"⟩, 16) := ⟨⟨by decide +kernel, by decide +kernel⟩, List.mem_of_getElem? (i := 20) (by decide +kernel), List.mem_of_getElem? (i := 519) (by decide +kernel), List.mem_of_getElem? (i := 520) (by decide +kernel)⟩
theorem lw_p10 : lw_okq (⟨"BaulkHall", "cueHeldBy", "(I)LBaulkHall$Cue;"⟩, 16) := ⟨⟨by decide +kernel, by decide +kernel⟩, List.mem_of_getElem? (i := 20) (by decide +kernel), List.mem_of_getElem? (i := 545) (by decide +kernel), List.mem_of_getElem? (i := 546) (by decide +kernel)⟩
theorem lw_p11 : lw_okq (⟨"BaulkHall$BoardRoll", "put", "(II)V"⟩, 7) := ⟨⟨by decide +kernel, by decide +kernel⟩, List.mem_of_getElem? (i := 40) (by decide +kernel), List.mem_of_getElem? (i := 571) (by decide +kernel), List.mem_of_getElem? (i := 572) (by decide +kernel)⟩
theorem lw_p12 : lw_okq (⟨"BaulkHall$PairsRoll", "isBeside", "(III)Z"⟩, 6) := ⟨⟨by decide +kernel, by decide +kernel⟩, List.mem_of_getElem? (i := 81) (by decide +kernel), List.mem_of_getElem? (i := 616) (by decide +kernel), List.mem_of_getElem? (i := 617) (by decide +kernel)⟩
theorem lw_p13 : lw_okq (⟨"BaulkHall$Frame", "isFoul", "(LBaulkHall$Roll;I)Z"⟩, 11) := ⟨⟨by decide +kernel, by decide +kernel⟩, List.mem_of_getElem? (i := 432) (by decide +kernel), List.mem_of_getElem? (i := 659) (by decide +kernel), List.mem_of_getElem? (i := 660) (by decide +kernel)⟩
theorem lw_p14 : lw_okq (⟨"BaulkHall$Frame", "settleFoul", "(LBaulkHall$Roll;I)I"⟩, 11) := ⟨⟨by decide +kernel, by decide +kernel⟩, List.mem_of_getElem? (i := 432) (by decide +kernel), List.mem_of_getElem? (i := 663) (by decide +kernel), List.mem_of_getElem? (i := 664) (by decide +kernel)⟩
theorem lw_p15 : lw_okq (⟨"BaulkHall$Frame", "addPoints", "(ZI)V"⟩, 11) := ⟨⟨by decide +kernel, by decide +kernel⟩, List.mem_of_getElem? (i := 432) (by decide +kernel), List.mem_of_getElem? (i := 668) (by decide +kernel), List.mem_of_getElem? (i := 669) (by decide +kernel)⟩
def lw_privs_1 : List (MethodName × Nat) := [(⟨"java/lang/Throwable", "fillInStackTrace", "(I)Ljava/lang/Throwable;"⟩, 6), (⟨"BaulkHall", "tableAt", "(I)LBaulkHall$Table;"⟩, 16), (⟨"BaulkHall", "rentsAny", "(I)Z"⟩, 16), (⟨"BaulkHall", "rentedTables", "()I"⟩, 16), (⟨"BaulkHall", "endRental", "(LBaulkHall$Table;)I"⟩, 16), (⟨"BaulkHall", "addDebt", "(II)V"⟩, 16), (⟨"BaulkHall", "takeFrameOff", "(LBaulkHall$Table;)V"⟩, 16), (⟨"BaulkHall", "openTables", "()I"⟩, 16), (⟨"BaulkHall", "putFrameOn", "(LBaulkHall$Frame;LBaulkHall$Table;I)V"⟩, 16), (⟨"BaulkHall", "frameAt", "(I)LBaulkHall$Frame;"⟩, 16), (⟨"BaulkHall", "cueHeldBy", "(I)LBaulkHall$Cue;"⟩, 16), (⟨"BaulkHall$BoardRoll", "put", "(II)V"⟩, 7), (⟨"BaulkHall$PairsRoll", "isBeside", "(III)Z"⟩, 6), (⟨"BaulkHall$Frame", "isFoul", "(LBaulkHall$Roll;I)Z"⟩, 11), (⟨"BaulkHall$Frame", "settleFoul", "(LBaulkHall$Roll;I)I"⟩, 11), (⟨"BaulkHall$Frame", "addPoints", "(ZI)V"⟩, 11)]
theorem lw_r1 : ∀ q ∈ lw_privs_1, lw_okq q := List.forall_mem_cons.mpr ⟨lw_p0, List.forall_mem_cons.mpr ⟨lw_p1, List.forall_mem_cons.mpr ⟨lw_p2, List.forall_mem_cons.mpr ⟨lw_p3, List.forall_mem_cons.mpr ⟨lw_p4, List.forall_mem_cons.mpr ⟨lw_p5, List.forall_mem_cons.mpr ⟨lw_p6, List.forall_mem_cons.mpr ⟨lw_p7, List.forall_mem_cons.mpr ⟨lw_p8, List.forall_mem_cons.mpr ⟨lw_p9, List.forall_mem_cons.mpr ⟨lw_p10, List.forall_mem_cons.mpr ⟨lw_p11, List.forall_mem_cons.mpr ⟨lw_p12, List.forall_mem_cons.mpr ⟨lw_p13, List.forall_mem_cons.mpr ⟨lw_p14, List.forall_mem_cons.mpr ⟨lw_p15, fun _ h => absurd h List.not_mem_nil⟩⟩⟩⟩⟩⟩⟩⟩⟩⟩⟩⟩⟩⟩⟩⟩
theorem lw_p16 : lw_okq (⟨"BaulkHall$Frame", "comeBack", "(I)V"⟩, 11) := ⟨⟨by decide +kernel, by decide +kernel⟩, List.mem_of_getElem? (i := 432) (by decide +kernel), List.mem_of_getElem? (i := 672) (by decide +kernel), List.mem_of_getElem? (i := 673) (by decide +kernel)⟩
theorem lw_p17 : lw_okq (⟨"BaulkHall$Frame", "ballIn", "(I)I"⟩, 11) := ⟨⟨by decide +kernel, by decide +kernel⟩, List.mem_of_getElem? (i := 432) (by decide +kernel), List.mem_of_getElem? (i := 676) (by decide +kernel), List.mem_of_getElem? (i := 677) (by decide +kernel)⟩
theorem lw_p18 : lw_okq (⟨"BaulkHall$Frame", "lowestEmptyCell", "()I"⟩, 11) := ⟨⟨by decide +kernel, by decide +kernel⟩, List.mem_of_getElem? (i := 432) (by decide +kernel), List.mem_of_getElem? (i := 680) (by decide +kernel), List.mem_of_getElem? (i := 681) (by decide +kernel)⟩
theorem lw_p19 : lw_okq (⟨"BaulkHall$Frame", "isHidden", "(I)Z"⟩, 11) := ⟨⟨by decide +kernel, by decide +kernel⟩, List.mem_of_getElem? (i := 432) (by decide +kernel), List.mem_of_getElem? (i := 685) (by decide +kernel), List.mem_of_getElem? (i := 686) (by decide +kernel)⟩
theorem lw_p20 : lw_okq (⟨"BaulkHall$Frame", "firstBallFromWhite", "(I)I"⟩, 11) := ⟨⟨by decide +kernel, by decide +kernel⟩, List.mem_of_getElem? (i := 432) (by decide +kernel), List.mem_of_getElem? (i := 689) (by decide +kernel), List.mem_of_getElem? (i := 690) (by decide +kernel)⟩
theorem lw_p21 : lw_okq (⟨"BaulkHall$Frame", "settleFair", "(LBaulkHall$Roll;)I"⟩, 11) := ⟨⟨by decide +kernel, by decide +kernel⟩, List.mem_of_getElem? (i := 432) (by decide +kernel), List.mem_of_getElem? (i := 694) (by decide +kernel), List.mem_of_getElem? (i := 695) (by decide +kernel)⟩
theorem lw_p22 : lw_okq (⟨"BaulkHall$Frame", "leader", "()I"⟩, 11) := ⟨⟨by decide +kernel, by decide +kernel⟩, List.mem_of_getElem? (i := 432) (by decide +kernel), List.mem_of_getElem? (i := 704) (by decide +kernel), List.mem_of_getElem? (i := 705) (by decide +kernel)⟩
theorem lw_p23 : lw_okq (⟨"BaulkHall", "countWin", "(LBaulkHall$Frame;)V"⟩, 16) := ⟨⟨by decide +kernel, by decide +kernel⟩, List.mem_of_getElem? (i := 20) (by decide +kernel), List.mem_of_getElem? (i := 710) (by decide +kernel), List.mem_of_getElem? (i := 711) (by decide +kernel)⟩
theorem lw_p24 : lw_okq (⟨"BaulkHall", "cueAt", "(I)LBaulkHall$Cue;"⟩, 16) := ⟨⟨by decide +kernel, by decide +kernel⟩, List.mem_of_getElem? (i := 20) (by decide +kernel), List.mem_of_getElem? (i := 721) (by decide +kernel), List.mem_of_getElem? (i := 722) (by decide +kernel)⟩
theorem lw_p25 : lw_okq (⟨"BaulkHall", "billsAnew", "(I)I"⟩, 16) := ⟨⟨by decide +kernel, by decide +kernel⟩, List.mem_of_getElem? (i := 20) (by decide +kernel), List.mem_of_getElem? (i := 810) (by decide +kernel), List.mem_of_getElem? (i := 811) (by decide +kernel)⟩
theorem lw_p26 : lw_okq (⟨"BaulkHall", "leagueMinutes", "(LBaulkHall$Rental;)I"⟩, 16) := ⟨⟨by decide +kernel, by decide +kernel⟩, List.mem_of_getElem? (i := 20) (by decide +kernel), List.mem_of_getElem? (i := 818) (by decide +kernel), List.mem_of_getElem? (i := 819) (by decide +kernel)⟩
theorem lw_p27 : lw_okq (⟨"BaulkHall", "depositsAnew", "(I)I"⟩, 16) := ⟨⟨by decide +kernel, by decide +kernel⟩, List.mem_of_getElem? (i := 20) (by decide +kernel), List.mem_of_getElem? (i := 828) (by decide +kernel), List.mem_of_getElem? (i := 829) (by decide +kernel)⟩
theorem lw_p28 : lw_okq (⟨"BaulkHall", "contactsOf", "(LBaulkHall$Roll;III)I"⟩, 16) := ⟨⟨by decide +kernel, by decide +kernel⟩, List.mem_of_getElem? (i := 20) (by decide +kernel), List.mem_of_getElem? (i := 894) (by decide +kernel), List.mem_of_getElem? (i := 895) (by decide +kernel)⟩
theorem lw_p29 : lw_okq (⟨"BaulkHallModel", "tableOf", "(I)I"⟩, 26) := ⟨⟨by decide +kernel, by decide +kernel⟩, List.mem_of_getElem? (i := 940) (by decide +kernel), List.mem_of_getElem? (i := 1046) (by decide +kernel), List.mem_of_getElem? (i := 1047) (by decide +kernel)⟩
theorem lw_p30 : lw_okq (⟨"BaulkHallModel", "asksTable", "(I)Z"⟩, 26) := ⟨⟨by decide +kernel, by decide +kernel⟩, List.mem_of_getElem? (i := 940) (by decide +kernel), List.mem_of_getElem? (i := 1054) (by decide +kernel), List.mem_of_getElem? (i := 1055) (by decide +kernel)⟩
theorem lw_p31 : lw_okq (⟨"BaulkHallModel", "ends", "(I)I"⟩, 26) := ⟨⟨by decide +kernel, by decide +kernel⟩, List.mem_of_getElem? (i := 940) (by decide +kernel), List.mem_of_getElem? (i := 1058) (by decide +kernel), List.mem_of_getElem? (i := 1059) (by decide +kernel)⟩
def lw_privs_2 : List (MethodName × Nat) := [(⟨"BaulkHall$Frame", "comeBack", "(I)V"⟩, 11), (⟨"BaulkHall$Frame", "ballIn", "(I)I"⟩, 11), (⟨"BaulkHall$Frame", "lowestEmptyCell", "()I"⟩, 11), (⟨"BaulkHall$Frame", "isHidden", "(I)Z"⟩, 11), (⟨"BaulkHall$Frame", "firstBallFromWhite", "(I)I"⟩, 11), (⟨"BaulkHall$Frame", "settleFair", "(LBaulkHall$Roll;)I"⟩, 11), (⟨"BaulkHall$Frame", "leader", "()I"⟩, 11), (⟨"BaulkHall", "countWin", "(LBaulkHall$Frame;)V"⟩, 16), (⟨"BaulkHall", "cueAt", "(I)LBaulkHall$Cue;"⟩, 16), (⟨"BaulkHall", "billsAnew", "(I)I"⟩, 16), (⟨"BaulkHall", "leagueMinutes", "(LBaulkHall$Rental;)I"⟩, 16), (⟨"BaulkHall", "depositsAnew", "(I)I"⟩, 16), (⟨"BaulkHall", "contactsOf", "(LBaulkHall$Roll;III)I"⟩, 16), (⟨"BaulkHallModel", "tableOf", "(I)I"⟩, 26), (⟨"BaulkHallModel", "asksTable", "(I)Z"⟩, 26), (⟨"BaulkHallModel", "ends", "(I)I"⟩, 26)]
theorem lw_r2 : ∀ q ∈ lw_privs_2, lw_okq q := List.forall_mem_cons.mpr ⟨lw_p16, List.forall_mem_cons.mpr ⟨lw_p17, List.forall_mem_cons.mpr ⟨lw_p18, List.forall_mem_cons.mpr ⟨lw_p19, List.forall_mem_cons.mpr ⟨lw_p20, List.forall_mem_cons.mpr ⟨lw_p21, List.forall_mem_cons.mpr ⟨lw_p22, List.forall_mem_cons.mpr ⟨lw_p23, List.forall_mem_cons.mpr ⟨lw_p24, List.forall_mem_cons.mpr ⟨lw_p25, List.forall_mem_cons.mpr ⟨lw_p26, List.forall_mem_cons.mpr ⟨lw_p27, List.forall_mem_cons.mpr ⟨lw_p28, List.forall_mem_cons.mpr ⟨lw_p29, List.forall_mem_cons.mpr ⟨lw_p30, List.forall_mem_cons.mpr ⟨lw_p31, fun _ h => absurd h List.not_mem_nil⟩⟩⟩⟩⟩⟩⟩⟩⟩⟩⟩⟩⟩⟩⟩⟩
theorem lw_p32 : lw_okq (⟨"BaulkHallModel", "clears", "(I)V"⟩, 26) := ⟨⟨by decide +kernel, by decide +kernel⟩, List.mem_of_getElem? (i := 940) (by decide +kernel), List.mem_of_getElem? (i := 1062) (by decide +kernel), List.mem_of_getElem? (i := 1063) (by decide +kernel)⟩
theorem lw_p33 : lw_okq (⟨"BaulkHallModel", "mayPlay", "(IIIZ)Z"⟩, 26) := ⟨⟨by decide +kernel, by decide +kernel⟩, List.mem_of_getElem? (i := 940) (by decide +kernel), List.mem_of_getElem? (i := 1082) (by decide +kernel), List.mem_of_getElem? (i := 1083) (by decide +kernel)⟩
theorem lw_p34 : lw_okq (⟨"BaulkHallModel", "asks", "(I)Z"⟩, 26) := ⟨⟨by decide +kernel, by decide +kernel⟩, List.mem_of_getElem? (i := 940) (by decide +kernel), List.mem_of_getElem? (i := 1097) (by decide +kernel), List.mem_of_getElem? (i := 1098) (by decide +kernel)⟩
theorem lw_p35 : lw_okq (⟨"BaulkHallModel", "lowest", "(I)I"⟩, 26) := ⟨⟨by decide +kernel, by decide +kernel⟩, List.mem_of_getElem? (i := 940) (by decide +kernel), List.mem_of_getElem? (i := 1101) (by decide +kernel), List.mem_of_getElem? (i := 1102) (by decide +kernel)⟩
theorem lw_p36 : lw_okq (⟨"BaulkHallModel", "forceOf", "(II)I"⟩, 26) := ⟨⟨by decide +kernel, by decide +kernel⟩, List.mem_of_getElem? (i := 940) (by decide +kernel), List.mem_of_getElem? (i := 1105) (by decide +kernel), List.mem_of_getElem? (i := 1106) (by decide +kernel)⟩
theorem lw_p37 : lw_okq (⟨"BaulkHallModel", "cueWith", "(I)I"⟩, 26) := ⟨⟨by decide +kernel, by decide +kernel⟩, List.mem_of_getElem? (i := 940) (by decide +kernel), List.mem_of_getElem? (i := 1109) (by decide +kernel), List.mem_of_getElem? (i := 1110) (by decide +kernel)⟩
theorem lw_p38 : lw_okq (⟨"BaulkHallModel", "shot", "(III)V"⟩, 26) := ⟨⟨by decide +kernel, by decide +kernel⟩, List.mem_of_getElem? (i := 940) (by decide +kernel), List.mem_of_getElem? (i := 1113) (by decide +kernel), List.mem_of_getElem? (i := 1114) (by decide +kernel)⟩
theorem lw_p39 : lw_okq (⟨"BaulkHallModel", "isRolling", "()Z"⟩, 26) := ⟨⟨by decide +kernel, by decide +kernel⟩, List.mem_of_getElem? (i := 940) (by decide +kernel), List.mem_of_getElem? (i := 1117) (by decide +kernel), List.mem_of_getElem? (i := 1118) (by decide +kernel)⟩
theorem lw_p40 : lw_okq (⟨"BaulkHallModel", "rolls", "(I)V"⟩, 26) := ⟨⟨by decide +kernel, by decide +kernel⟩, List.mem_of_getElem? (i := 940) (by decide +kernel), List.mem_of_getElem? (i := 1121) (by decide +kernel), List.mem_of_getElem? (i := 1122) (by decide +kernel)⟩
theorem lw_p41 : lw_okq (⟨"BaulkHallModel", "inCell", "(I)I"⟩, 26) := ⟨⟨by decide +kernel, by decide +kernel⟩, List.mem_of_getElem? (i := 940) (by decide +kernel), List.mem_of_getElem? (i := 1131) (by decide +kernel), List.mem_of_getElem? (i := 1132) (by decide +kernel)⟩
theorem lw_p42 : lw_okq (⟨"BaulkHallModel", "fouls", "(II)I"⟩, 26) := ⟨⟨by decide +kernel, by decide +kernel⟩, List.mem_of_getElem? (i := 940) (by decide +kernel), List.mem_of_getElem? (i := 1138) (by decide +kernel), List.mem_of_getElem? (i := 1139) (by decide +kernel)⟩
theorem lw_p43 : lw_okq (⟨"BaulkHallModel", "comesBack", "(II)V"⟩, 26) := ⟨⟨by decide +kernel, by decide +kernel⟩, List.mem_of_getElem? (i := 940) (by decide +kernel), List.mem_of_getElem? (i := 1142) (by decide +kernel), List.mem_of_getElem? (i := 1143) (by decide +kernel)⟩
theorem lw_p44 : lw_okq (⟨"BaulkHallModel", "isHidden", "(I)Z"⟩, 26) := ⟨⟨by decide +kernel, by decide +kernel⟩, List.mem_of_getElem? (i := 940) (by decide +kernel), List.mem_of_getElem? (i := 1146) (by decide +kernel), List.mem_of_getElem? (i := 1147) (by decide +kernel)⟩
theorem lw_p45 : lw_okq (⟨"BaulkHallModel", "seen", "(I)I"⟩, 26) := ⟨⟨by decide +kernel, by decide +kernel⟩, List.mem_of_getElem? (i := 940) (by decide +kernel), List.mem_of_getElem? (i := 1150) (by decide +kernel), List.mem_of_getElem? (i := 1151) (by decide +kernel)⟩
theorem lw_p46 : lw_okq (⟨"BaulkHallModel", "scores", "(I)I"⟩, 26) := ⟨⟨by decide +kernel, by decide +kernel⟩, List.mem_of_getElem? (i := 940) (by decide +kernel), List.mem_of_getElem? (i := 1154) (by decide +kernel), List.mem_of_getElem? (i := 1155) (by decide +kernel)⟩
theorem lw_p47 : lw_okq (⟨"BaulkHallModel", "isOver", "(I)V"⟩, 26) := ⟨⟨by decide +kernel, by decide +kernel⟩, List.mem_of_getElem? (i := 940) (by decide +kernel), List.mem_of_getElem? (i := 1158) (by decide +kernel), List.mem_of_getElem? (i := 1159) (by decide +kernel)⟩
def lw_privs_3 : List (MethodName × Nat) := [(⟨"BaulkHallModel", "clears", "(I)V"⟩, 26), (⟨"BaulkHallModel", "mayPlay", "(IIIZ)Z"⟩, 26), (⟨"BaulkHallModel", "asks", "(I)Z"⟩, 26), (⟨"BaulkHallModel", "lowest", "(I)I"⟩, 26), (⟨"BaulkHallModel", "forceOf", "(II)I"⟩, 26), (⟨"BaulkHallModel", "cueWith", "(I)I"⟩, 26), (⟨"BaulkHallModel", "shot", "(III)V"⟩, 26), (⟨"BaulkHallModel", "isRolling", "()Z"⟩, 26), (⟨"BaulkHallModel", "rolls", "(I)V"⟩, 26), (⟨"BaulkHallModel", "inCell", "(I)I"⟩, 26), (⟨"BaulkHallModel", "fouls", "(II)I"⟩, 26), (⟨"BaulkHallModel", "comesBack", "(II)V"⟩, 26), (⟨"BaulkHallModel", "isHidden", "(I)Z"⟩, 26), (⟨"BaulkHallModel", "seen", "(I)I"⟩, 26), (⟨"BaulkHallModel", "scores", "(I)I"⟩, 26), (⟨"BaulkHallModel", "isOver", "(I)V"⟩, 26)]
theorem lw_r3 : ∀ q ∈ lw_privs_3, lw_okq q := List.forall_mem_cons.mpr ⟨lw_p32, List.forall_mem_cons.mpr ⟨lw_p33, List.forall_mem_cons.mpr ⟨lw_p34, List.forall_mem_cons.mpr ⟨lw_p35, List.forall_mem_cons.mpr ⟨lw_p36, List.forall_mem_cons.mpr ⟨lw_p37, List.forall_mem_cons.mpr ⟨lw_p38, List.forall_mem_cons.mpr ⟨lw_p39, List.forall_mem_cons.mpr ⟨lw_p40, List.forall_mem_cons.mpr ⟨lw_p41, List.forall_mem_cons.mpr ⟨lw_p42, List.forall_mem_cons.mpr ⟨lw_p43, List.forall_mem_cons.mpr ⟨lw_p44, List.forall_mem_cons.mpr ⟨lw_p45, List.forall_mem_cons.mpr ⟨lw_p46, List.forall_mem_cons.mpr ⟨lw_p47, fun _ h => absurd h List.not_mem_nil⟩⟩⟩⟩⟩⟩⟩⟩⟩⟩⟩⟩⟩⟩⟩⟩
theorem lw_p48 : lw_okq (⟨"BaulkHallModel", "sum", "(I)I"⟩, 26) := ⟨⟨by decide +kernel, by decide +kernel⟩, List.mem_of_getElem? (i := 940) (by decide +kernel), List.mem_of_getElem? (i := 1201) (by decide +kernel), List.mem_of_getElem? (i := 1202) (by decide +kernel)⟩
theorem lw_p49 : lw_okq (⟨"BaulkHallModel", "meetings", "(III)I"⟩, 26) := ⟨⟨by decide +kernel, by decide +kernel⟩, List.mem_of_getElem? (i := 940) (by decide +kernel), List.mem_of_getElem? (i := 1245) (by decide +kernel), List.mem_of_getElem? (i := 1246) (by decide +kernel)⟩
theorem lw_p50 : lw_okq (⟨"BaulkHallModel", "winsOf", "(I)I"⟩, 26) := ⟨⟨by decide +kernel, by decide +kernel⟩, List.mem_of_getElem? (i := 940) (by decide +kernel), List.mem_of_getElem? (i := 1257) (by decide +kernel), List.mem_of_getElem? (i := 1258) (by decide +kernel)⟩
def lw_privs_4 : List (MethodName × Nat) := [(⟨"BaulkHallModel", "sum", "(I)I"⟩, 26), (⟨"BaulkHallModel", "meetings", "(III)I"⟩, 26), (⟨"BaulkHallModel", "winsOf", "(I)I"⟩, 26)]
theorem lw_r4 : ∀ q ∈ lw_privs_4, lw_okq q := List.forall_mem_cons.mpr ⟨lw_p48, List.forall_mem_cons.mpr ⟨lw_p49, List.forall_mem_cons.mpr ⟨lw_p50, fun _ h => absurd h List.not_mem_nil⟩⟩⟩
def lw_privs : List (MethodName × Nat) := lw_privs_1 ++ (lw_privs_2 ++ (lw_privs_3 ++ (lw_privs_4)))
def lw_tbl : List Cond := k2_sels lw_privs ++ tables_1
theorem lw_privs_ok : ∀ q ∈ lw_privs, lw_okq q := by
  show ∀ q ∈ lw_privs_1 ++ (lw_privs_2 ++ (lw_privs_3 ++ (lw_privs_4))), lw_okq q
  exact List.forall_mem_append.mpr ⟨lw_r1, List.forall_mem_append.mpr ⟨lw_r2, List.forall_mem_append.mpr ⟨lw_r3, lw_r4⟩⟩⟩
end
section
/-! ===== BEGIN words of one list among another's, by their places ===== -/
theorem goodIn_r {big : List Cond} (ws : List Cond) (ps : List Nat) (hp : ws = ps.filterMap (fun i => big[i]?)) (h : ws.all goodWord = true) : GoodIn big ws := by
  intro w hw
  have h1 := List.all_eq_true.mp h w hw
  rw [hp] at hw
  obtain ⟨i, -, hi⟩ := List.mem_filterMap.mp hw
  have hm : w ∈ big := by first | exact List.mem_of_getElem? hi | exact List.getElem?_mem hi
  exact ⟨hm, good_of_word h1⟩
theorem goodIn_app {big a b : List Cond} (ha : GoodIn big a) (hb : GoodIn big b) : GoodIn big (a ++ b) := fun w h => (List.mem_append.mp h).elim (ha w) (hb w)
theorem goodIn_ca {big a b : List Cond} {c : Cond} (ha : GoodIn big (c :: a)) (hb : GoodIn big b) : GoodIn big (c :: (a ++ b)) := fun w h => (List.mem_cons.mp h).elim (fun e => ha w (List.mem_cons.mpr (Or.inl e))) (fun h => (List.mem_append.mp h).elim (fun h => ha w (List.mem_cons.mpr (Or.inr h))) (hb w))
theorem goodIn_sub {big ws : List Cond} (hm : ∀ w ∈ ws, w ∈ big) (h : ws.all goodWord = true) : GoodIn big ws := fun w hw => ⟨hm w hw, good_of_word (List.all_eq_true.mp h w hw)⟩
/-! ===== END ===== -/

/-! ===== BEGIN exceptions that leave a method, and their catching by the caller (launches without stack traces) ===== -/
section VXA
/-! The laws vx_back, vx_callV, vx_callS, vx_callSW, vx_throw0, vx_throwS follow proofs of the library, with one case more: JvmDerived/Free/Laws.lean (Back.of_free), Shelf42/LK1.lean (callV, callS), Shelf/KitTraced.lean (throwNew0V, throwNewS). -/
/-- where a method has thrown q: the class by its name, the cell, what was written, the world -/
def vx_T (XC : String → State → State → Prop) (st : State) (q : Addr) (t : State) (mc ms : Nat) (free : Addr → Prop) : Prop :=
  ∃ (E : String) (ce : Cell) (L : List Loc), XC E st t ∧ t.heap[q]? = some ce ∧ ce.vm = .none ∧ st.vm.findClass E = some ce.cls ∧ st.WarmedH t.vm ∧ st.sameButNew ({ t with vm := st.vm } : State) L mc ms ∧ ∀ z ∈ L, free z.base
def vx_Q (Qc : Array Value → State → Outcome → State → Prop) (XC : String → State → State → Prop) (mc ms : Nat) (free : Addr → Prop) : Array Value → State → Outcome → State → Prop := fun a st o t =>
  (Qc a st o t ∧ ∃ L, FrameEnd st o t L mc ms ∧ ∀ q ∈ L, free q.base) ∨ ∃ q, o = .threw q ∧ vx_T XC st q t mc ms free
/-- a callee that returns or throws -/
def vx_Met (l : Launch) (y : MethodName) (ws : List Cond) (rm : Room) (Pc : Array Value → State → Prop) (Qc : Array Value → State → Outcome → State → Prop) (XC : String → State → State → Prop) (mc ms : Nat) (free : Addr → Prop) : Prop :=
  MetFree l y (headSpec ws rm) Pc (fun _ _ _ _ _ => True) (vx_Q Qc XC mc ms free)
def vx_Post (XC : String → State → State → Prop) (mc ms : Nat) (free : Addr → Prop) : Pt → Array Value → Addr → Pt → Prop := fun A a q B =>
  ∃ (g : JFrame) (mk : MethodId) (t : State) (L : List Loc) (E : String) (ce : Cell), B.U.heap = t.heap ∧ B.U.vm = t.vm ∧ XC E (A.U.calling g mk a) t ∧ t.heap[q]? = some ce ∧ ce.vm = .none ∧ A.U.vm.findClass E = some ce.cls ∧ B.locs = A.locs ++ L ∧ (∀ z ∈ L, free z.base) ∧ B.cells = A.cells + mc ∧ B.slots = A.slots + ms
def vx_Back (l : Launch) (R : Room) (p : Program) (e : Env) (below : List Frame) (s : State) (sargs : Array Value) (y : MethodName) (len W9 : Nat)
    (Pre : Pt → Array Value → Prop) (Post : Pt → Array Value → Option Value → Pt → Prop) (PostX : Pt → Array Value → Addr → Pt → Prop) : Prop :=
  ∀ (m : MethodId) (meth : Method) (c : Code) (A : Pt) (g : JFrame) (ig : Instr) (mk : MethodId) (a : Array Value),
    Stand p l e R s m sargs below meth c A.U A.locs A.cells A.slots → g.method = m → g.locals.size = c.maxLocals → decode c.code g.pc = .ok (ig, len) →
    2 * g.monitorRoom + (g.stack.map fun v => v.category).sum ≤ W9 → A.U.methodNamed? y = some mk → Pre A a →
    (∃ (v : Option Value) (B : Pt), Stand p l e R s m sargs below meth c B.U B.locs B.cells B.slots ∧ Post A a v B ∧
      Steps p.tables e below (doInvoke e (A.U.setTop g) [] mk a).1 (B.U.setTop { g with pc := g.pc + len, stack := v.toList ++ g.stack })) ∨
    (∃ (q : Addr) (B : Pt), Stand p l e R s m sargs below meth c B.U B.locs B.cells B.slots ∧ PostX A a q B ∧
      Steps p.tables e below (doInvoke e (A.U.setTop g) [] mk a).1 ((B.U.setTop g).pushFrame (.throwing q)))
section Payer
variable {l : Launch} {R : Room} {p : Program} {e : Env} {below : List Frame} {s : State} {sargs : Array Value} {y : MethodName} {len W9 : Nat}
theorem vx_back {ws : List Cond} {rm : Room} {Pc : Array Value → State → Prop} {Qc : Array Value → State → Outcome → State → Prop} {XC : String → State → State → Prop} {mc ms : Nat} {free : Addr → Prop} {bytes : ByteArray} {maxL : Nat} {ret : Option FieldType}
    (hM : vx_Met l y ws rm Pc Qc XC mc ms free) (hblind : FrameBlind Pc) (hrc : rm.cells = mc) (hrs : rm.slots = ms)
    (hframes : rm.frames + 1 ≤ R.frames) (hlocals : W9 + (maxL + 11) + rm.locals ≤ R.locals)
    (hws : ∀ w ∈ ws, ∀ a' U, s.WarmedH U.vm → w.before a' U = true) (hcode : Cond.code y bytes maxL ret ∈ ws) (hinit : ∀ a' U, s.WarmedH U.vm → (Cond.initialized y.cls).before a' U = true) :
    vx_Back l R p e below s sargs y len W9 (PreOf R mc ms Pc) (PostOf Qc mc ms free) (vx_Post XC mc ms free) := by
  intro m meth c A g ig mk a X hg hsize hdg hW hn hp
  have h1 : (headSpec ws rm).pre.before a A.U = true := atoms_intro fun w hw => hws w hw _ _ X.warmed
  have h2 : (Cond.code y bytes maxL ret).before a A.U = true := hws _ hcode _ _ X.warmed
  have h3 : (Cond.initialized y.cls).before a A.U = true := hinit _ _ X.warmed
  have h4 : A.cells + (headSpec ws rm).room.cells ≤ R.cells := by rw [show (headSpec ws rm).room.cells = mc from hrc]; exact hp.1
  have h5 : A.slots + (headSpec ws rm).room.slots ≤ R.slots := by rw [show (headSpec ws rm).room.slots = ms from hrs]; exact hp.2.1
  have hPc : Pc a (A.U.calling g mk a) := hblind _ _ _ _ hp.2.2
  obtain ⟨U, Ls, c0, s0⟩ := A
  dsimp only [Pt.U, Pt.locs, Pt.cells, Pt.slots] at h1 h2 h3 h4 h5 X hn hPc ⊢
  obtain ⟨methY, cY, hmY, hcY, -, hlY, -, -, -, -⟩ := Cond.code_spec hn h2
  obtain ⟨kY, hkY, -⟩ := className_of_methodNamed hn
  have hinitY : kY.init = .initialized := Cond.initialized_spec (findClass_of_methodNamed hn) hkY h3
  have h : At U g.method c below := by rw [hg]; exact X.here
  have hlocals9 : W9 + (maxL + 11) + (headSpec ws rm).room.locals ≤ R.locals := hlocals
  have happ : (headSpec ws rm).appliesLoose y e.platform (U.calling g mk a) = true :=
    Spec.appliesLoose_calling (g := g) h hdg hn hkY hinitY
      (X.room_calling (g := g) (R' := (headSpec ws rm).room) hsize hmY hcY hframes (by rw [hlY]; omega) h4 h5) h1
  obtain ⟨mid, hmid⟩ := h.above
  have hfr : (U.setTop g).frames = (.java g :: mid) ++ below := by rw [State.frames_setTop' g h.top, hmid]; rfl
  obtain ⟨o, s₂, hsteps, -, hend, hq⟩ := Steps.callFree hM p X.admits X.cas X.clock (acts := []) hfr happ hPc trivial
  have hq' : vx_Q Qc XC mc ms free a (U.calling g mk a) o s₂ := hq
  rw [State.frames_setTop' g h.top] at hend
  obtain ⟨g₀, hg0⟩ := Option.isSome_iff_exists.mp h.top
  obtain ⟨r, hr⟩ := State.topJava?_eq_some.mp hg0
  have hr' : (({ U with heap := s₂.heap, slotsUsed := s₂.slotsUsed } : State).setVm s₂.vm).frames = .java g₀ :: r := hr
  rcases hq' with ⟨hqc, L, hfe, hL⟩ | ⟨q, rfl, E, ce, L, hx, hce, hcv, hcl, hW₂, hsm, hL⟩
  · obtain ⟨⟨v, rfl⟩, hW₂, e2, q2, q3, q4, q5, q6⟩ := id hfe
    have e3 : s₂ = ({ (U.calling g mk a).setFrames s₂.frames with heap := s₂.heap, slotsUsed := s₂.slotsUsed } : State).setVm s₂.vm := by
      have : s₂ = ({ s₂ with vm := (U.calling g mk a).vm } : State).setVm s₂.vm := rfl
      rw [e2] at this
      exact this
    obtain ⟨c₂, i₂, len₂, hc₂, hd₂, hf₂⟩ := hend
    have hW' : U.WarmedH s₂.vm := hW₂
    have hcc : c₂ = c := by
      have h1 : s₂.code? g.method = U.code? g.method := by
        rw [State.code?_eq, State.code?_eq, hW'.alike.method?]
      exact Option.some.inj (hc₂.symm.trans (h1.trans h.code))
    subst hcc
    have hlen : len₂ = len := by rw [hdg] at hd₂; cases hd₂; rfl
    subst hlen
    have hs₂ : s₂ = (({ U with heap := s₂.heap, slotsUsed := s₂.slotsUsed } : State).setVm s₂.vm).setTop { g with pc := g.pc + len₂, stack := v.toList ++ g.stack } := by
      refine e3.trans ?_
      rw [hf₂, State.calling_eq h.top, State.setFrames_setFrames, State.setTop_of_frames _ hr', hr]
      rfl
    have hsame : U.sameButNew ({ U with heap := s₂.heap, slotsUsed := s₂.slotsUsed } : State) L mc ms := by
      refine ⟨?_, q2, q3, q4, q5, q6⟩
      obtain ⟨t, ht, -⟩ := State.frames_cons hr
      show ({ U with heap := s₂.heap, slotsUsed := s₂.slotsUsed } : State) = { U.setFrames U.frames with heap := s₂.heap, slotsUsed := s₂.slotsUsed }
      rw [State.setFrames_self ht]
    subst hg
    refine Or.inl ⟨v, ⟨(({ U with heap := s₂.heap, slotsUsed := s₂.slotsUsed } : State).setVm s₂.vm), Ls ++ L, c0 + mc, s0 + ms⟩,
      ⟨X.admits, X.cas, X.clock, X.frames, X.room, X.hears, X.method, X.code, (X.here.setHeapUsed s₂.heap s₂.slotsUsed).setVm hW'.alike, X.tail, State.WarmedH.trans X.warmed hW', X.limits, X.bytes, X.same.trans (hsame.setVm s.vm)⟩,
      ⟨g, mk, s₂, L, rfl, rfl, hqc, rfl, hL, rfl, rfl⟩, ?_⟩
    show Steps p.tables e below _ ((({ U with heap := s₂.heap, slotsUsed := s₂.slotsUsed } : State).setVm s₂.vm).setTop { g with pc := g.pc + len₂, stack := v.toList ++ g.stack })
    rw [← hs₂]
    exact hsteps
  · obtain ⟨e2, q2, q3, q4, q5, q6⟩ := id hsm
    have e3 : s₂ = ({ (U.calling g mk a).setFrames s₂.frames with heap := s₂.heap, slotsUsed := s₂.slotsUsed } : State).setVm s₂.vm := by
      have : s₂ = ({ s₂ with vm := (U.calling g mk a).vm } : State).setVm s₂.vm := rfl
      rw [e2] at this
      exact this
    have hf₂ : s₂.frames = .throwing q :: .java g :: U.frames.tail := hend
    have hW' : U.WarmedH s₂.vm := hW₂
    have hs₂ : s₂ = ((({ U with heap := s₂.heap, slotsUsed := s₂.slotsUsed } : State).setVm s₂.vm).setTop g).pushFrame (.throwing q) := by
      refine e3.trans ?_
      rw [hf₂, State.calling_eq h.top, State.setFrames_setFrames, State.pushFrame, State.frames_setTop _ hr', State.setTop_of_frames _ hr', State.setFrames_setFrames, hr]
      rfl
    have hsame : U.sameButNew ({ U with heap := s₂.heap, slotsUsed := s₂.slotsUsed } : State) L mc ms := by
      refine ⟨?_, q2, q3, q4, q5, q6⟩
      obtain ⟨t, ht, -⟩ := State.frames_cons hr
      show ({ U with heap := s₂.heap, slotsUsed := s₂.slotsUsed } : State) = { U.setFrames U.frames with heap := s₂.heap, slotsUsed := s₂.slotsUsed }
      rw [State.setFrames_self ht]
    subst hg
    refine Or.inr ⟨q, ⟨(({ U with heap := s₂.heap, slotsUsed := s₂.slotsUsed } : State).setVm s₂.vm), Ls ++ L, c0 + mc, s0 + ms⟩,
      ⟨X.admits, X.cas, X.clock, X.frames, X.room, X.hears, X.method, X.code, (X.here.setHeapUsed s₂.heap s₂.slotsUsed).setVm hW'.alike, X.tail, State.WarmedH.trans X.warmed hW', X.limits, X.bytes, X.same.trans (hsame.setVm s.vm)⟩,
      ⟨g, mk, s₂, L, E, ce, rfl, rfl, hx, hce, hcv, hcl, rfl, hL, rfl, rfl⟩, ?_⟩
    show Steps p.tables e below _ (((({ U with heap := s₂.heap, slotsUsed := s₂.slotsUsed } : State).setVm s₂.vm).setTop g).pushFrame (.throwing q))
    rw [← hs₂]
    exact hsteps
end Payer
section Calls
variable {p : Program} {l : Launch} {e : Env} {R : Room} {s : State} {m : MethodId} {args : Array Value} {below : List Frame} {meth : Method} {c : Code} {T : State} {locs : List Loc} {cells slots : Nat}
theorem vx_callV (X : Stand p l e R s m args below meth c T locs cells slots) (hexec : p.tables.exec = Jvm.exec) {own C : String} {index : Nat} {y : MethodName} {bytes : ByteArray} {maxL : Nat} {ret : Option FieldType}
    (hown : s.vm.findClass own = some m.cls) (hlink : (Cond.methodLink own index y).before args s = true) (hinst : (Cond.instanceMethod y).before args s = true) (hsel : (Cond.selects C y y).before args s = true)
    (hcode : (Cond.code y bytes maxL ret).before args s = true) (hy : y.cls ≠ "java/lang/invoke/MethodHandle" ∧ y.cls ≠ "java/lang/invoke/VarHandle")
    {W9 : Nat} {Pre : Pt → Array Value → Prop} {Post : Pt → Array Value → Option Value → Pt → Prop} {PostX : Pt → Array Value → Addr → Pt → Prop} (hK : vx_Back l R p e below s args y 3 W9 Pre Post PostX)
    {b : Addr} {cellB : Cell} (hcell : T.heap[b]? = some cellB) (hobj : cellB.vm.isStatics = false) (hcls : s.vm.findClass C = some cellB.cls)
    {g : JFrame} (hg : g.method = m) (hsize : g.locals.size = c.maxLocals) {argsL rest : List Value} (hlen : ∀ sig, parseMethodDescriptor y.desc = some sig → argsL.length = sig.parameters.length)
    (hstack : g.stack = argsL.reverse ++ .ref b :: rest) (hW : 2 * g.monitorRoom + (rest.map fun v => v.category).sum ≤ W9) (hdg : decode c.code g.pc = .ok (.invokevirtual index, 3))
    (hpre : ∀ vm₁, s.WarmedH vm₁ → Pre ⟨T.setVm vm₁, locs, cells, slots⟩ (Value.ref b :: argsL).toArray) :
    (∃ (v : Option Value) (vm₁ : Vm) (B : Pt), s.WarmedH vm₁ ∧ Stand p l e R s m args below meth c B.U B.locs B.cells B.slots ∧ Post ⟨T.setVm vm₁, locs, cells, slots⟩ (Value.ref b :: argsL).toArray v B ∧
      ∀ target, Steps p.tables e below (B.U.setTop { g with pc := g.pc + 3, stack := v.toList ++ rest }) target → Steps p.tables e below (T.setTop g) target) ∨
    (∃ (q : Addr) (vm₁ : Vm) (B : Pt), s.WarmedH vm₁ ∧ Stand p l e R s m args below meth c B.U B.locs B.cells B.slots ∧ PostX ⟨T.setVm vm₁, locs, cells, slots⟩ (Value.ref b :: argsL).toArray q B ∧
      Steps p.tables e below (T.setTop g) ((B.U.setTop { g with stack := rest }).pushFrame (.throwing q))) := by
  obtain ⟨mk, methM, hnamed, hmethM, hstM, habM⟩ := Cond.instanceMethod_spec hinst
  obtain ⟨methM', cM, hmethM', -, -, -, -, -, -, hsigM⟩ := Cond.code_spec hnamed hcode
  cases hmethM.symm.trans hmethM'
  obtain ⟨c2, r2, m2, q1, q2, q3, q4, kP, hkP, hkPi⟩ := Cond.selects_spec hsel
  cases hcls.symm.trans q1
  cases (State.methodFound?_of_named hnamed hy).symm.trans q2
  cases hnamed.symm.trans q3
  have hselP : selectMethod e.platform s.vm cellB.cls mk = .method mk := by rw [Launch.admits_selectMethod X.admits]; exact q4
  obtain ⟨vm₁, X₁, hstep₁⟩ := X.invokevirtual hexec hown hlink hnamed hmethM hstM hkP hkPi hy (a := b) (cell := cellB) hcell
    (fun z h => by rw [h] at hobj; cases hobj) hselP hmethM habM hkP hkPi (g := g) hg (argsL := argsL) (rest := rest) (hlen _ hsigM) hstack hdg
  rcases hK m meth c ⟨T.setVm vm₁, locs, cells, slots⟩ { g with stack := rest } (.invokevirtual index) mk (Value.ref b :: argsL).toArray X₁ hg hsize hdg hW (X₁.named hnamed) (hpre vm₁ X₁.warmed) with ⟨v, B, X', hpost, hsteps⟩ | ⟨q, B, X', hpost, hsteps⟩
  · exact Or.inl ⟨v, vm₁, B, X₁.warmed, X', hpost, fun target h => hstep₁ _ fun acts => by rw [doInvoke_state]; exact hsteps.trans h⟩
  · exact Or.inr ⟨q, vm₁, B, X₁.warmed, X', hpost, hstep₁ _ fun acts => by rw [doInvoke_state]; exact hsteps⟩
theorem vx_callS (X : Stand p l e R s m args below meth c T locs cells slots) (hexec : p.tables.exec = Jvm.exec) {own : String} {index : Nat} {y : MethodName} {bytes : ByteArray} {maxL : Nat} {ret : Option FieldType}
    (hown : s.vm.findClass own = some m.cls) (hlink : (Cond.methodLink own index y).before args s = true) (hstat : (Cond.static y).before args s = true) (hinit : (Cond.initialized y.cls).before args s = true)
    (hcode : (Cond.code y bytes maxL ret).before args s = true) (hy : y.cls ≠ "java/lang/invoke/MethodHandle" ∧ y.cls ≠ "java/lang/invoke/VarHandle")
    {W9 : Nat} {Pre : Pt → Array Value → Prop} {Post : Pt → Array Value → Option Value → Pt → Prop} {PostX : Pt → Array Value → Addr → Pt → Prop} (hK : vx_Back l R p e below s args y 3 W9 Pre Post PostX)
    {g : JFrame} (hg : g.method = m) (hsize : g.locals.size = c.maxLocals) {argsL rest : List Value} (hlen : ∀ sig, parseMethodDescriptor y.desc = some sig → argsL.length = sig.parameters.length)
    (hstack : g.stack = argsL.reverse ++ rest) (hW : 2 * g.monitorRoom + (rest.map fun v => v.category).sum ≤ W9) (hdg : decode c.code g.pc = .ok (.invokestatic index, 3))
    (hpre : ∀ vm₁, s.WarmedH vm₁ → Pre ⟨T.setVm vm₁, locs, cells, slots⟩ argsL.toArray) :
    (∃ (v : Option Value) (vm₁ : Vm) (B : Pt), s.WarmedH vm₁ ∧ Stand p l e R s m args below meth c B.U B.locs B.cells B.slots ∧ Post ⟨T.setVm vm₁, locs, cells, slots⟩ argsL.toArray v B ∧
      ∀ target, Steps p.tables e below (B.U.setTop { g with pc := g.pc + 3, stack := v.toList ++ rest }) target → Steps p.tables e below (T.setTop g) target) ∨
    (∃ (q : Addr) (vm₁ : Vm) (B : Pt), s.WarmedH vm₁ ∧ Stand p l e R s m args below meth c B.U B.locs B.cells B.slots ∧ PostX ⟨T.setVm vm₁, locs, cells, slots⟩ argsL.toArray q B ∧
      Steps p.tables e below (T.setTop g) ((B.U.setTop { g with stack := rest }).pushFrame (.throwing q))) := by
  obtain ⟨mk, hnamed⟩ := Cond.code_named hcode
  obtain ⟨methM, cM, hmethM, -, -, -, -, -, -, hsigM⟩ := Cond.code_spec hnamed hcode
  have hstatic : methM.isStatic = true := Cond.static_spec hnamed hmethM hstat
  obtain ⟨kP, hkP, -⟩ := className_of_methodNamed hnamed
  have hinitP : kP.init = .initialized := Cond.initialized_spec (findClass_of_methodNamed hnamed) hkP hinit
  obtain ⟨vm₁, X₁, hstep₁⟩ := X.invokestatic hexec hown hlink hnamed hmethM hstatic hkP hinitP hy (g := g) hg (argsL := argsL) (rest := rest) (hlen _ hsigM) hstack hdg
  rcases hK m meth c ⟨T.setVm vm₁, locs, cells, slots⟩ { g with stack := rest } (.invokestatic index) mk argsL.toArray X₁ hg hsize hdg hW (X₁.named hnamed) (hpre vm₁ X₁.warmed) with ⟨v, B, X', hpost, hsteps⟩ | ⟨q, B, X', hpost, hsteps⟩
  · exact Or.inl ⟨v, vm₁, B, X₁.warmed, X', hpost, fun target h => hstep₁ _ fun acts => by rw [doInvoke_state]; exact hsteps.trans h⟩
  · exact Or.inr ⟨q, vm₁, B, X₁.warmed, X', hpost, hstep₁ _ fun acts => by rw [doInvoke_state]; exact hsteps⟩
end Calls
theorem vx_cls {s : State} {T : State} {vm₁ : Vm} {E : String} {k : ClassId} (hW : s.WarmedH vm₁) (h : (T.setVm vm₁).vm.findClass E = some k) : s.vm.findClass E = some k := by
  have h1 : vm₁.findClass E = some k := h
  rw [hW.alike.findClass] at h1
  exact h1
/-- the method's frame g, with q thrown over it -/
def vx_W (p : Program) (l : Launch) (e : Env) (R : Room) (s : State) (m : MethodId) (args : Array Value) (below : List Frame) (meth : Method) (c : Code) (H : Heap) (locs : List Loc) (cells slots : Nat) (Q : State → Prop) (g : JFrame) (q : Addr) : Prop :=
  ∀ T : State, T.heap = H → Stand p l e R s m args below meth c T locs cells slots → ∃ t, Steps p.tables e below ((T.setTop g).pushFrame (.throwing q)) t ∧ Q t
def vx_Run (p : Program) (l : Launch) (e : Env) (R : Room) (s : State) (m : MethodId) (args : Array Value) (below : List Frame) (meth : Method) (c : Code) (H : Heap) (locs : List Loc) (cells slots mc ms : Nat) (g : JFrame) (rest : List Value) (Qa : State → Outcome → State → Prop) (XC : String → State → State → Prop) (free : Addr → Prop) : Prop :=
  ∀ T : State, T.heap = H → Stand p l e R s m args below meth c T locs cells slots →
    (∃ (v : Option Value) (st₀ t T' : State) (L : List Loc), st₀.heap = H ∧ Stand p l e R s m args below meth c T' (locs ++ L) (cells + mc) (slots + ms) ∧ (∀ q ∈ L, free q.base) ∧ T'.heap = t.heap ∧ T'.vm = t.vm ∧ Qa st₀ (.returned v) t ∧
      Goes p e below T g T' { g with pc := g.pc + 3, stack := v.toList ++ rest }) ∨
    (∃ (q : Addr) (st₀ t T' : State) (L : List Loc) (E : String) (ce : Cell), st₀.heap = H ∧ Stand p l e R s m args below meth c T' (locs ++ L) (cells + mc) (slots + ms) ∧ (∀ z ∈ L, free z.base) ∧ T'.heap = t.heap ∧ T'.vm = t.vm ∧ XC E st₀ t ∧ t.heap[q]? = some ce ∧ ce.vm = .none ∧ s.vm.findClass E = some ce.cls ∧
      Steps p.tables e below (T.setTop g) ((T'.setTop { g with stack := rest }).pushFrame (.throwing q)))
def vx_X {S : Type} (px : S → Prop) (B : String → S → State → Prop) (A : Nat → Prop) : String → State → State → Prop := fun E st t => ∃ u : S, px u ∧ B E u t ∧ va_F A st t
section Runs
variable {p : Program} {l : Launch} {e : Env} {R : Room} {s : State} {m : MethodId} {args : Array Value} {below : List Frame} {meth : Method} {c : Code} {H : Heap} {locs : List Loc} {cells slots : Nat}
variable {y : MethodName} {bytes cc : ByteArray} {maxL nL mc ms n index : Nat} {ret : Option FieldType} {ws : List Cond} {rm : Room} {Pc : Array Value → State → Prop} {Qc : Array Value → State → Outcome → State → Prop} {XC : String → State → State → Prop} {free : Addr → Prop} {Ts : List Cond} {own C : String} {b : Addr} {As rest : List Value} {g : JFrame}
theorem vx_callBack (cb : CallB R s args own index y bytes maxL ret ws rm mc ms n) (hM : vx_Met l y ws rm Pc Qc XC mc ms free) (hbl : FrameBlind Pc) : vx_Back l R p e below s args y 3 8 (PreOf R mc ms Pc) (PostOf Qc mc ms free) (vx_Post XC mc ms free) := by
  obtain ⟨hrc, hrs, hfr, hlo, hws, hcw, -, hini, -⟩ := cb
  exact vx_back (bytes := bytes) (maxL := maxL) (ret := ret) hM hbl hrc hrs hfr hlo hws hcw (fun a' U hW => word_at hW (Or.inl (by first | rfl | simp [Cond.onTables, Cond.keeps, Cond.steady])) hini)
theorem vx_runV (S : CallFix p m c cc nL s args Ts own) (hM : vx_Met l y ws rm Pc Qc XC mc ms free) (cw : CallW R s args own C index y bytes maxL ret ws rm mc ms n) (hp : PreV s H C b Pc As)
    (hg : g.method = m) (hn : As.length = n) (hsize : g.locals.size = nL) (hstack : g.stack = As.reverse ++ .ref b :: rest) (hW : 2 * g.monitorRoom + (rest.map fun v => v.category).sum ≤ 8) (hdg : decode cc g.pc = .ok (.invokevirtual index, 3)) (hf : cells + mc ≤ R.cells ∧ slots + ms ≤ R.slots) :
    vx_Run p l e R s m args below meth c H locs cells slots mc ms g rest (Qc (Value.ref b :: As).toArray) XC free := by
  have hK : vx_Back l R p e below s args y 3 8 (PreOf R mc ms Pc) (PostOf Qc mc ms free) (vx_Post XC mc ms free) := vx_callBack cw.1 hM hp.1
  obtain ⟨⟨-, -, -, -, -, -, hcode, -, hy, hlen, hl⟩, hin, hse⟩ := cw
  obtain ⟨hx, hb, hml, ho, -⟩ := S
  obtain ⟨-, ⟨cellB, hcB, hoB, hclB⟩, hPc⟩ := hp
  intro T hT X
  rcases vx_callV X hx (C := C) (bytes := bytes) (maxL := maxL) (ret := ret) ho hl hin hse hcode hy hK (by rw [hT]; exact hcB) hoB hclB hg (hsize.trans hml.symm) (argsL := As) (rest := rest) (fun sig h => hn.trans (hlen sig h)) hstack hW (by rw [hb]; exact hdg)
    (fun vm₁ hW₁ => ⟨hf.1, hf.2, hPc (T.setVm vm₁) hT hW₁⟩) with ⟨v, vm₁, ⟨U', l2, c2, s2⟩, hW₁, X', ⟨g', mk, t, L, e1, e2, hq, h1, hL, h2, h3⟩, st⟩ | ⟨q, vm₁, ⟨U', l2, c2, s2⟩, hW₁, X', ⟨g', mk, t, L, E, ce, e1, e2, hq, hce, hcv, hcl, h1, hL, h2, h3⟩, st⟩
  · dsimp only [Pt.U, Pt.locs, Pt.cells, Pt.slots] at X' e1 e2 h1 h2 h3 st
    subst h1; subst h2; subst h3
    exact Or.inl ⟨v, (T.setVm vm₁).calling g' mk (Value.ref b :: As).toArray, t, U', L, hT, X', hL, e1, e2, hq, st⟩
  · dsimp only [Pt.U, Pt.locs, Pt.cells, Pt.slots] at X' e1 e2 h1 h2 h3 st hcl
    subst h1; subst h2; subst h3
    exact Or.inr ⟨q, (T.setVm vm₁).calling g' mk (Value.ref b :: As).toArray, t, U', L, E, ce, hT, X', hL, e1, e2, hq, hce, hcv, vx_cls hW₁ hcl, st⟩
theorem vx_runS (S : CallFix p m c cc nL s args Ts own) (hM : vx_Met l y ws rm Pc Qc XC mc ms free) (cw : CallB R s args own index y bytes maxL ret ws rm mc ms n ∧ (Cond.static y).before args s = true) (hp : PreS s H Pc As)
    (hg : g.method = m) (hn : As.length = n) (hsize : g.locals.size = nL) (hstack : g.stack = As.reverse ++ rest) (hW : 2 * g.monitorRoom + (rest.map fun v => v.category).sum ≤ 8) (hdg : decode cc g.pc = .ok (.invokestatic index, 3)) (hf : cells + mc ≤ R.cells ∧ slots + ms ≤ R.slots) :
    vx_Run p l e R s m args below meth c H locs cells slots mc ms g rest (Qc As.toArray) XC free := by
  have hK : vx_Back l R p e below s args y 3 8 (PreOf R mc ms Pc) (PostOf Qc mc ms free) (vx_Post XC mc ms free) := vx_callBack cw.1 hM hp.1
  obtain ⟨⟨-, -, -, -, -, -, hcode, hini, hy, hlen, hl⟩, hstt⟩ := cw
  obtain ⟨hx, hb, hml, ho, -⟩ := S
  intro T hT X
  rcases vx_callS X hx (bytes := bytes) (maxL := maxL) (ret := ret) ho hl hstt hini hcode hy hK hg (hsize.trans hml.symm) (argsL := As) (rest := rest) (fun sig h => hn.trans (hlen sig h)) hstack hW (by rw [hb]; exact hdg)
    (fun vm₁ hW₁ => ⟨hf.1, hf.2, hp.2 (T.setVm vm₁) hT hW₁⟩) with ⟨v, vm₁, ⟨U', l2, c2, s2⟩, hW₁, X', ⟨g', mk, t, L, e1, e2, hq, h1, hL, h2, h3⟩, st⟩ | ⟨q, vm₁, ⟨U', l2, c2, s2⟩, hW₁, X', ⟨g', mk, t, L, E, ce, e1, e2, hq, hce, hcv, hcl, h1, hL, h2, h3⟩, st⟩
  · dsimp only [Pt.U, Pt.locs, Pt.cells, Pt.slots] at X' e1 e2 h1 h2 h3 st
    subst h1; subst h2; subst h3
    exact Or.inl ⟨v, (T.setVm vm₁).calling g' mk As.toArray, t, U', L, hT, X', hL, e1, e2, hq, st⟩
  · dsimp only [Pt.U, Pt.locs, Pt.cells, Pt.slots] at X' e1 e2 h1 h2 h3 st hcl
    subst h1; subst h2; subst h3
    exact Or.inr ⟨q, (T.setVm vm₁).calling g' mk As.toArray, t, U', L, E, ce, hT, X', hL, e1, e2, hq, hce, hcv, vx_cls hW₁ hcl, st⟩
end Runs
section Rows
variable {p : Program} {l : Launch} {e : Env} {R : Room} {s : State} {m : MethodId} {args : Array Value} {below : List Frame} {meth : Method} {c : Code} {H : Heap} {locs : List Loc} {cells slots : Nat} {Q : State → Prop}
variable {mc ms : Nat} {free : Addr → Prop} {A0 A1 : Nat → Prop} {H0 : Heap} {a : Array Value} {pc : Nat} {ls : Array Slot} {st0 rest : List Value}
theorem vx_keep {st₀ t T' : State} {L : List Loc} (h0 : st₀.heap = H) (e1 : T'.heap = t.heap) (hS : va_S A0 H0 H locs) (hA : ∀ q, q < H.size → A1 q → A0 q) (hf : ∀ q, free q → A0 q) (hL : ∀ q ∈ L, free q.base) (hF : va_F A1 st₀ t) :
    H.size ≤ T'.heap.size ∧ (∀ q : Nat, q < H.size → ¬ A1 q → T'.heap[q]? = H[q]?) ∧ va_S A0 H0 T'.heap (locs ++ L) := by
  obtain ⟨hz, hk⟩ := hF
  rw [h0] at hz hk
  exact ⟨by rw [e1]; exact hz, fun q h1 h2 => by rw [e1]; exact hk q h1 h2,
    ⟨Nat.le_trans hS.1 (by rw [e1]; exact hz), fun q h1 h2 => by rw [e1, hk q (Nat.lt_of_lt_of_le h1 hS.1) (fun z => h2 (hA q (Nat.lt_of_lt_of_le h1 hS.1) z))]; exact hS.2.1 q h1 h2, fun q hq => by
      rcases List.mem_append.mp hq with h | h
      · exact hS.2.2 q h
      · exact hf _ (hL q h)⟩⟩
theorem vx_calli {S SX : Type} {post : Int32 → S → Prop} {px : SX → Prop} {B : S → State → Prop} {BX : String → SX → State → Prop} {AX : Nat → Prop} (hr : vx_Run p l e R s m args below meth c H locs cells slots mc ms (F0 m pc ls st0) rest (va_Qi post B A1 a) (vx_X px BX AX) free) (hS : va_S A0 H0 H locs) (hA : ∀ q, q < H.size → A1 q → A0 q) (hf : ∀ q, free q → A0 q) (hAX : ∀ q, q < H.size → AX q → A0 q)
    (kx : ∀ (E : String) (ce : Cell) (q9 : Addr) (u : SX) (t : State) (H1 : Heap) (locs1 : List Loc), t.heap = H1 → s.vm.Alike t.vm → px u → BX E u t → H.size ≤ H1.size → (∀ q : Nat, q < H.size → ¬ AX q → H1[q]? = H[q]?) → va_S A0 H0 H1 locs1 → H1[q9]? = some ce → ce.vm = .none → s.vm.findClass E = some ce.cls → vx_W p l e R s m args below meth c H1 locs1 (cells + mc) (slots + ms) Q (F0 m pc ls rest) q9)
    (kk : ∀ (r : Int32) (u : S) (t : State) (H1 : Heap) (locs1 : List Loc), t.heap = H1 → s.vm.Alike t.vm → post r u → B u t → H.size ≤ H1.size → (∀ q : Nat, q < H.size → ¬ A1 q → H1[q]? = H[q]?) → va_S A0 H0 H1 locs1 → W p l e R s m args below meth c H1 locs1 (cells + mc) (slots + ms) Q (F0 m (pc + 3) ls (.int r :: rest))) : W p l e R s m args below meth c H locs cells slots Q (F0 m pc ls st0) := by
  intro T hT X
  rcases hr T hT X with ⟨v, st₀, t, T', L, h0, X', hL, e1, e2, ⟨⟨r, u, hv, hp, hb⟩, hF⟩, st⟩ | ⟨q, st₀, t, T', L, E, ce, h0, X', hL, e1, e2, ⟨u, hp, hb, hF⟩, hce, hcv, hcl, st⟩
  · cases hv
    obtain ⟨k1, k2, k3⟩ := vx_keep h0 e1 hS hA hf hL hF
    obtain ⟨t2, a1, b1⟩ := kk r u t T'.heap (locs ++ L) e1.symm (by rw [← e2]; exact X'.warmed.alike) hp hb k1 k2 k3 T' rfl X'
    exact ⟨t2, st t2 a1, b1⟩
  · obtain ⟨k1, k2, k3⟩ := vx_keep h0 e1 hS hAX hf hL hF
    obtain ⟨t2, a1, b1⟩ := kx E ce q u t T'.heap (locs ++ L) e1.symm (by rw [← e2]; exact X'.warmed.alike) hp hb k1 k2 k3 (by rw [e1]; exact hce) hcv hcl T' rfl X'
    exact ⟨t2, st.trans a1, b1⟩
theorem vx_calll {S SX : Type} {post : Int64 → S → Prop} {px : SX → Prop} {B : S → State → Prop} {BX : String → SX → State → Prop} {AX : Nat → Prop} (hr : vx_Run p l e R s m args below meth c H locs cells slots mc ms (F0 m pc ls st0) rest (va_Ql post B A1 a) (vx_X px BX AX) free) (hS : va_S A0 H0 H locs) (hA : ∀ q, q < H.size → A1 q → A0 q) (hf : ∀ q, free q → A0 q) (hAX : ∀ q, q < H.size → AX q → A0 q)
    (kx : ∀ (E : String) (ce : Cell) (q9 : Addr) (u : SX) (t : State) (H1 : Heap) (locs1 : List Loc), t.heap = H1 → s.vm.Alike t.vm → px u → BX E u t → H.size ≤ H1.size → (∀ q : Nat, q < H.size → ¬ AX q → H1[q]? = H[q]?) → va_S A0 H0 H1 locs1 → H1[q9]? = some ce → ce.vm = .none → s.vm.findClass E = some ce.cls → vx_W p l e R s m args below meth c H1 locs1 (cells + mc) (slots + ms) Q (F0 m pc ls rest) q9)
    (kk : ∀ (r : Int64) (u : S) (t : State) (H1 : Heap) (locs1 : List Loc), t.heap = H1 → s.vm.Alike t.vm → post r u → B u t → H.size ≤ H1.size → (∀ q : Nat, q < H.size → ¬ A1 q → H1[q]? = H[q]?) → va_S A0 H0 H1 locs1 → W p l e R s m args below meth c H1 locs1 (cells + mc) (slots + ms) Q (F0 m (pc + 3) ls (.long r :: rest))) : W p l e R s m args below meth c H locs cells slots Q (F0 m pc ls st0) := by
  intro T hT X
  rcases hr T hT X with ⟨v, st₀, t, T', L, h0, X', hL, e1, e2, ⟨⟨r, u, hv, hp, hb⟩, hF⟩, st⟩ | ⟨q, st₀, t, T', L, E, ce, h0, X', hL, e1, e2, ⟨u, hp, hb, hF⟩, hce, hcv, hcl, st⟩
  · cases hv
    obtain ⟨k1, k2, k3⟩ := vx_keep h0 e1 hS hA hf hL hF
    obtain ⟨t2, a1, b1⟩ := kk r u t T'.heap (locs ++ L) e1.symm (by rw [← e2]; exact X'.warmed.alike) hp hb k1 k2 k3 T' rfl X'
    exact ⟨t2, st t2 a1, b1⟩
  · obtain ⟨k1, k2, k3⟩ := vx_keep h0 e1 hS hAX hf hL hF
    obtain ⟨t2, a1, b1⟩ := kx E ce q u t T'.heap (locs ++ L) e1.symm (by rw [← e2]; exact X'.warmed.alike) hp hb k1 k2 k3 (by rw [e1]; exact hce) hcv hcl T' rfl X'
    exact ⟨t2, st.trans a1, b1⟩
theorem vx_callf {S SX : Type} {post : UInt32 → S → Prop} {px : SX → Prop} {B : S → State → Prop} {BX : String → SX → State → Prop} {AX : Nat → Prop} (hr : vx_Run p l e R s m args below meth c H locs cells slots mc ms (F0 m pc ls st0) rest (va_Qf post B A1 a) (vx_X px BX AX) free) (hS : va_S A0 H0 H locs) (hA : ∀ q, q < H.size → A1 q → A0 q) (hf : ∀ q, free q → A0 q) (hAX : ∀ q, q < H.size → AX q → A0 q)
    (kx : ∀ (E : String) (ce : Cell) (q9 : Addr) (u : SX) (t : State) (H1 : Heap) (locs1 : List Loc), t.heap = H1 → s.vm.Alike t.vm → px u → BX E u t → H.size ≤ H1.size → (∀ q : Nat, q < H.size → ¬ AX q → H1[q]? = H[q]?) → va_S A0 H0 H1 locs1 → H1[q9]? = some ce → ce.vm = .none → s.vm.findClass E = some ce.cls → vx_W p l e R s m args below meth c H1 locs1 (cells + mc) (slots + ms) Q (F0 m pc ls rest) q9)
    (kk : ∀ (r : UInt32) (u : S) (t : State) (H1 : Heap) (locs1 : List Loc), t.heap = H1 → s.vm.Alike t.vm → post r u → B u t → H.size ≤ H1.size → (∀ q : Nat, q < H.size → ¬ A1 q → H1[q]? = H[q]?) → va_S A0 H0 H1 locs1 → W p l e R s m args below meth c H1 locs1 (cells + mc) (slots + ms) Q (F0 m (pc + 3) ls (.float r :: rest))) : W p l e R s m args below meth c H locs cells slots Q (F0 m pc ls st0) := by
  intro T hT X
  rcases hr T hT X with ⟨v, st₀, t, T', L, h0, X', hL, e1, e2, ⟨⟨r, u, hv, hp, hb⟩, hF⟩, st⟩ | ⟨q, st₀, t, T', L, E, ce, h0, X', hL, e1, e2, ⟨u, hp, hb, hF⟩, hce, hcv, hcl, st⟩
  · cases hv
    obtain ⟨k1, k2, k3⟩ := vx_keep h0 e1 hS hA hf hL hF
    obtain ⟨t2, a1, b1⟩ := kk r u t T'.heap (locs ++ L) e1.symm (by rw [← e2]; exact X'.warmed.alike) hp hb k1 k2 k3 T' rfl X'
    exact ⟨t2, st t2 a1, b1⟩
  · obtain ⟨k1, k2, k3⟩ := vx_keep h0 e1 hS hAX hf hL hF
    obtain ⟨t2, a1, b1⟩ := kx E ce q u t T'.heap (locs ++ L) e1.symm (by rw [← e2]; exact X'.warmed.alike) hp hb k1 k2 k3 (by rw [e1]; exact hce) hcv hcl T' rfl X'
    exact ⟨t2, st.trans a1, b1⟩
theorem vx_calld {S SX : Type} {post : UInt64 → S → Prop} {px : SX → Prop} {B : S → State → Prop} {BX : String → SX → State → Prop} {AX : Nat → Prop} (hr : vx_Run p l e R s m args below meth c H locs cells slots mc ms (F0 m pc ls st0) rest (va_Qd post B A1 a) (vx_X px BX AX) free) (hS : va_S A0 H0 H locs) (hA : ∀ q, q < H.size → A1 q → A0 q) (hf : ∀ q, free q → A0 q) (hAX : ∀ q, q < H.size → AX q → A0 q)
    (kx : ∀ (E : String) (ce : Cell) (q9 : Addr) (u : SX) (t : State) (H1 : Heap) (locs1 : List Loc), t.heap = H1 → s.vm.Alike t.vm → px u → BX E u t → H.size ≤ H1.size → (∀ q : Nat, q < H.size → ¬ AX q → H1[q]? = H[q]?) → va_S A0 H0 H1 locs1 → H1[q9]? = some ce → ce.vm = .none → s.vm.findClass E = some ce.cls → vx_W p l e R s m args below meth c H1 locs1 (cells + mc) (slots + ms) Q (F0 m pc ls rest) q9)
    (kk : ∀ (r : UInt64) (u : S) (t : State) (H1 : Heap) (locs1 : List Loc), t.heap = H1 → s.vm.Alike t.vm → post r u → B u t → H.size ≤ H1.size → (∀ q : Nat, q < H.size → ¬ A1 q → H1[q]? = H[q]?) → va_S A0 H0 H1 locs1 → W p l e R s m args below meth c H1 locs1 (cells + mc) (slots + ms) Q (F0 m (pc + 3) ls (.double r :: rest))) : W p l e R s m args below meth c H locs cells slots Q (F0 m pc ls st0) := by
  intro T hT X
  rcases hr T hT X with ⟨v, st₀, t, T', L, h0, X', hL, e1, e2, ⟨⟨r, u, hv, hp, hb⟩, hF⟩, st⟩ | ⟨q, st₀, t, T', L, E, ce, h0, X', hL, e1, e2, ⟨u, hp, hb, hF⟩, hce, hcv, hcl, st⟩
  · cases hv
    obtain ⟨k1, k2, k3⟩ := vx_keep h0 e1 hS hA hf hL hF
    obtain ⟨t2, a1, b1⟩ := kk r u t T'.heap (locs ++ L) e1.symm (by rw [← e2]; exact X'.warmed.alike) hp hb k1 k2 k3 T' rfl X'
    exact ⟨t2, st t2 a1, b1⟩
  · obtain ⟨k1, k2, k3⟩ := vx_keep h0 e1 hS hAX hf hL hF
    obtain ⟨t2, a1, b1⟩ := kx E ce q u t T'.heap (locs ++ L) e1.symm (by rw [← e2]; exact X'.warmed.alike) hp hb k1 k2 k3 (by rw [e1]; exact hce) hcv hcl T' rfl X'
    exact ⟨t2, st.trans a1, b1⟩
theorem vx_callv {S SX : Type} {post : S → Prop} {px : SX → Prop} {B : S → State → Prop} {BX : String → SX → State → Prop} {AX : Nat → Prop} (hr : vx_Run p l e R s m args below meth c H locs cells slots mc ms (F0 m pc ls st0) rest (va_Qv post B A1 a) (vx_X px BX AX) free) (hS : va_S A0 H0 H locs) (hA : ∀ q, q < H.size → A1 q → A0 q) (hf : ∀ q, free q → A0 q) (hAX : ∀ q, q < H.size → AX q → A0 q)
    (kx : ∀ (E : String) (ce : Cell) (q9 : Addr) (u : SX) (t : State) (H1 : Heap) (locs1 : List Loc), t.heap = H1 → s.vm.Alike t.vm → px u → BX E u t → H.size ≤ H1.size → (∀ q : Nat, q < H.size → ¬ AX q → H1[q]? = H[q]?) → va_S A0 H0 H1 locs1 → H1[q9]? = some ce → ce.vm = .none → s.vm.findClass E = some ce.cls → vx_W p l e R s m args below meth c H1 locs1 (cells + mc) (slots + ms) Q (F0 m pc ls rest) q9)
    (kk : ∀ (u : S) (t : State) (H1 : Heap) (locs1 : List Loc), t.heap = H1 → s.vm.Alike t.vm → post u → B u t → H.size ≤ H1.size → (∀ q : Nat, q < H.size → ¬ A1 q → H1[q]? = H[q]?) → va_S A0 H0 H1 locs1 → W p l e R s m args below meth c H1 locs1 (cells + mc) (slots + ms) Q (F0 m (pc + 3) ls (rest))) : W p l e R s m args below meth c H locs cells slots Q (F0 m pc ls st0) := by
  intro T hT X
  rcases hr T hT X with ⟨v, st₀, t, T', L, h0, X', hL, e1, e2, ⟨⟨u, hv, hp, hb⟩, hF⟩, st⟩ | ⟨q, st₀, t, T', L, E, ce, h0, X', hL, e1, e2, ⟨u, hp, hb, hF⟩, hce, hcv, hcl, st⟩
  · cases hv
    obtain ⟨k1, k2, k3⟩ := vx_keep h0 e1 hS hA hf hL hF
    obtain ⟨t2, a1, b1⟩ := kk u t T'.heap (locs ++ L) e1.symm (by rw [← e2]; exact X'.warmed.alike) hp hb k1 k2 k3 T' rfl X'
    exact ⟨t2, st t2 a1, b1⟩
  · obtain ⟨k1, k2, k3⟩ := vx_keep h0 e1 hS hAX hf hL hF
    obtain ⟨t2, a1, b1⟩ := kx E ce q u t T'.heap (locs ++ L) e1.symm (by rw [← e2]; exact X'.warmed.alike) hp hb k1 k2 k3 (by rw [e1]; exact hce) hcv hcl T' rfl X'
    exact ⟨t2, st.trans a1, b1⟩
/-- caught by the row x of this method's table; the rows ahead don't take it -/
theorem vx_catch {own name : String} {E : String} {ce : Cell} {q : Addr} (hown : s.vm.findClass own = some m.cls) (pre : List ExceptionTableEntry) (x : ExceptionTableEntry) (suf : List ExceptionTableEntry) (hsplit : c.exceptionTable.toList = pre ++ x :: suf)
    (hpass : ∀ z ∈ pre, covers z pc = false ∨ (z.catchType ≠ 0 ∧ ∃ nm : String, (Cond.classLink own z.catchType nm).before args s = true ∧ va_Nc E nm s)) (hx : covers x pc = true) (h0 : x.catchType ≠ 0)
    (hlink : (Cond.classLink own x.catchType name).before args s = true) (hcast : (Cond.castable E name).before args s = true) (hcell : H[q]? = some ce) (hv : ce.vm = .none) (hcl : s.vm.findClass E = some ce.cls)
    (kk : W p l e R s m args below meth c H locs cells slots Q (F0 m x.handlerPc ls [.ref q])) : vx_W p l e R s m args below meth c H locs cells slots Q (F0 m pc ls rest) q := by
  intro T hT X
  have hpl : e.platform.magicAccessors = ({} : Platform).magicAccessors := by rw [X.admits.platform]
  obtain ⟨c3, c4, hc3, hc4, hasg⟩ := Cond.castable_spec hcast
  cases Option.some.inj (hc3.symm.trans hcl)
  obtain ⟨c5, hc5, hcl5⟩ := Cond.classLink_spec hown hlink e.platform hpl
  cases Option.some.inj (hc4.symm.trans hc5)
  obtain ⟨vm', X', st⟩ := X.thenCaughtThrough q (g := F0 m pc ls rest) rfl (Steps.refl _) (by rw [hT]; exact hcell) (by rw [hv]; rfl) (by obtain ⟨k9, h9, -⟩ := Vm.findClass_spec hcl; exact ⟨k9, h9⟩) pre x suf hsplit
    (fun z hz => by
      rcases hpass z hz with h | ⟨hz0, nm, hl1, hn1⟩
      · exact Or.inl h
      · obtain ⟨c6, hc6, hcl6⟩ := Cond.classLink_spec hown hl1 e.platform hpl
        obtain ⟨a8, b8, h1, h2, h3⟩ := hn1
        cases Option.some.inj (h1.symm.trans hcl)
        cases Option.some.inj (h2.symm.trans hc6)
        exact Or.inr ⟨hz0, _, hcl6, h3⟩) hx (Or.inr ⟨h0, c4, hcl5, hasg⟩)
  obtain ⟨t, a1, b1⟩ := kk (T.setVm vm') hT X'
  exact ⟨t, st.trans a1, b1⟩
end Rows
section Ends
variable {p : Program} {l : Launch} {e : Env} {R : Room} {s : State} {m : MethodId} {args : Array Value} {below : List Frame} {meth : Method} {c : Code} {H : Heap} {locs : List Loc} {cells slots : Nat} {Q : State → Prop}
variable {mc ms : Nat} {free : Addr → Prop} {A0 A1 : Nat → Prop} {H0 : Heap} {a : Array Value} {ls : Array Slot} {st0 rest : List Value}
variable {Qc : Array Value → State → Outcome → State → Prop} {XC : String → State → State → Prop}
/-- what a body that may throw owes at its end -/
def vx_MQ (below : List Frame) (Qc : Array Value → State → Outcome → State → Prop) (XC : String → State → State → Prop) (a : Array Value) (s : State) (mc ms : Nat) (free : Addr → Prop) : State → Prop := fun t =>
  ∃ o, t.status = .running ∧ Ended t below o ∧ vx_Q Qc XC mc ms free a s o t
theorem vx_ret {g : JFrame} {mc ms : Nat} (k : W p l e R s m args below meth c H locs cells slots (MQ below Qc args s mc ms free) g) : W p l e R s m args below meth c H locs cells slots (vx_MQ below Qc XC args s mc ms free) g := by
  intro T hT X
  obtain ⟨t, a1, o, b1, b2, b3, b4⟩ := k T hT X
  exact ⟨t, a1, o, b1, b2, Or.inl ⟨b3, b4⟩⟩
/-- not caught here: it goes on to the caller -/
theorem vx_widen {g : JFrame} {q : Addr} {k n : Nat} (h1 : cells ≤ k) (h2 : slots ≤ n) (kk : vx_W p l e R s m args below meth c H locs k n Q g q) : vx_W p l e R s m args below meth c H locs cells slots Q g q := fun T hT X => kk T hT (stand_widen X h1 h2)
theorem vx_out {pc : Nat} {E : String} {ce : Cell} {q : Addr} {mc ms : Nat} (hout : ∀ x ∈ c.exceptionTable.toList, covers x pc = false) (hlocks : meth.locks = false) (hcell : H[q]? = some ce) (hv : ce.vm = .none) (hcl : s.vm.findClass E = some ce.cls)
    (hx : ∀ t : State, t.heap = H → s.vm.Alike t.vm → XC E s t) (hf : ∀ z ∈ locs, free z.base) (hc : cells ≤ mc) (hs : slots ≤ ms) :
    vx_W p l e R s m args below meth c H locs cells slots (vx_MQ below Qc XC args s mc ms free) (F0 m pc ls rest) q := by
  intro T hT X
  obtain ⟨st1, hrun, hend, hW, hsm⟩ := X.leaveThrown q (g := F0 m pc ls rest) rfl rfl rfl hout hlocks
  have hcell9 : (T.setFrames (.throwing q :: below)).heap[q]? = some ce := by
    show T.heap[q]? = some ce
    rw [hT]; exact hcell
  exact ⟨_, st1, .threw q, hrun, hend, Or.inr ⟨q, rfl, E, ce, locs, hx _ hT hW.alike, hcell9, hv, hcl, hW, hsm.mono hc hs, hf⟩⟩
theorem vx_frame {U : State} {k n : Nat} (h : s.sameButNew ({ U with vm := s.vm } : State) locs k n) : s.heap.size ≤ U.heap.size ∧ ∀ q : Nat, q < s.heap.size → (∀ z ∈ locs, z.base ≠ q) → U.heap[q]? = s.heap[q]? := by
  obtain ⟨-, h2, -, -, -, h6⟩ := h
  refine ⟨h2, fun q hq hz => ?_⟩
  obtain ⟨c9, e1, e2, e3, e4⟩ := h6 q _ (Array.getElem?_eq_getElem hq)
  have hs : c9.slots = (s.heap[q]).slots := Array.ext_getElem? fun i => e4 i fun hm => hz _ hm rfl
  have h9 : c9 = s.heap[q] := by
    rw [hs] at e2
    exact e2
  have e5 : U.heap[q]? = some c9 := e1
  rw [e5, h9, Array.getElem?_eq_getElem hq]
/-- the words of a throw but the four that speak of the heap -/
def vx_no (w : Cond) : Bool := decide (w ≠ .isRef (.static Bundle.tN "UNASSIGNED_STACK" Bundle.steD)) && decide (w ≠ .isRef (.static Bundle.tN "SUPPRESSED_SENTINEL" Bundle.listD)) && decide (w ≠ .laysStatic Bundle.tN "UNASSIGNED_STACK" Bundle.steD) && decide (w ≠ .laysStatic Bundle.tN "SUPPRESSED_SENTINEL" Bundle.listD)
def vx_at0 (own : String) (ic : Nat) (X : String) (names : List String) : List Cond := (Bundle.ownAtoms0 own ic X names).filter vx_no
def vx_atS (own : String) (ic : Nat) (X : String) (names : List String) : List Cond := (Bundle.ownAtoms own ic X names).filter vx_no
/-- a word that the tables alone decide, or a good one -/
def vx_ot (w : Cond) : Bool := w.onTables || goodWord w
theorem vx_ot_at {args a' : Array Value} {s U : State} {w : Cond} (hW : s.WarmedH U.vm) (hvm : s.vm = U.vm) (hg : vx_ot w = true) (h : w.before args s = true) : w.before a' U = true := by
  simp only [vx_ot, Bool.or_eq_true] at hg
  rcases hg with hg | hg
  · exact va_tabs hg hvm h
  · exact word_at hW (good_of_word hg) h
/-- a list's words: the good ones out of the method's own list, the others by premises of their own -/
theorem vx_hat {args : Array Value} {s : State} {L B : List Cond} (h1 : ∀ w ∈ L.filter goodWord, w.before args s = true) (h2 : ∀ w ∈ L.filter (fun w => !goodWord w), w ∈ B) (h3 : ∀ w ∈ B, w.before args s = true) : ∀ w ∈ L, w.before args s = true := by
  intro w hw
  by_cases g : goodWord w = true
  · exact h1 w (List.mem_filter.mpr ⟨hw, g⟩)
  · refine h3 w (h2 w (List.mem_filter.mpr ⟨hw, ?_⟩))
    show (!goodWord w) = true
    cases hgw : goodWord w
    · rfl
    · exact absurd hgw g
theorem vx_c {args : Array Value} {s : State} {w : Cond} {B : List Cond} (h : w.before args s = true) (t : ∀ w ∈ B, w.before args s = true) : ∀ w' ∈ w :: B, w'.before args s = true := fun w' h' => (List.mem_cons.mp h').elim (fun e => by rw [e]; exact h) (t w')
theorem vx_n {args : Array Value} {s : State} : ∀ w ∈ ([] : List Cond), w.before args s = true := fun _ h => nomatch h
theorem vx_own {args : Array Value} {s : State} {L : List Cond} (h1 : ∀ w ∈ L.filter vx_no, w.before args s = true)
    (hU : (Cond.isRef (.static Bundle.tN "UNASSIGNED_STACK" Bundle.steD)).before args s = true) (hN : (Cond.isRef (.static Bundle.tN "SUPPRESSED_SENTINEL" Bundle.listD)).before args s = true)
    (lU : (Cond.laysStatic Bundle.tN "UNASSIGNED_STACK" Bundle.steD).before args s = true) (lN : (Cond.laysStatic Bundle.tN "SUPPRESSED_SENTINEL" Bundle.listD).before args s = true) : ∀ w ∈ L, w.before args s = true := by
  intro w hw
  by_cases e1 : w = .isRef (.static Bundle.tN "UNASSIGNED_STACK" Bundle.steD)
  · rw [e1]; exact hU
  · by_cases e2 : w = .isRef (.static Bundle.tN "SUPPRESSED_SENTINEL" Bundle.listD)
    · rw [e2]; exact hN
    · by_cases e3 : w = .laysStatic Bundle.tN "UNASSIGNED_STACK" Bundle.steD
      · rw [e3]; exact lU
      · by_cases e4 : w = .laysStatic Bundle.tN "SUPPRESSED_SENTINEL" Bundle.listD
        · rw [e4]; exact lN
        · exact h1 w (List.mem_filter.mpr ⟨hw, by unfold vx_no; rw [decide_eq_true e1, decide_eq_true e2, decide_eq_true e3, decide_eq_true e4]; rfl⟩)
/-- where a static field lies, its class's statics cell in H -/
def vx_L (C n d : String) (A : Nat → Prop) (U : State) (H : Heap) : Prop := ∃ (c : ClassId) (k : Class) (i : Nat) (f : Field) (a : Nat) (cell : Cell), U.vm.findClass C = some c ∧ U.fieldFound? C n d = some (c, k, i, f) ∧ f.isStatic = true ∧ k.statics = some a ∧ H[a]? = some cell ∧ cell.vm.isStatics = true ∧ cell.cls = c ∧ f.slot < cell.slots.size ∧ k.staticTypes[f.slot]? = some f.type ∧ ¬ A a
theorem vx_L.moved {C n d : String} {A : Nat → Prop} {u U : State} {H : Heap} (hvm : u.vm.Alike U.vm) (h : vx_L C n d A u H) : vx_L C n d A U H := by
  obtain ⟨c, k, i, f, a, cell, h1, h2, h3, h4, h5, h6, h7, h8, h9, h10⟩ := h
  obtain ⟨k', hi', he⟩ := State.fieldFound?_setVm hvm h2
  exact ⟨c, k', i, f, a, cell, by rw [hvm.findClass]; exact h1, hi', h3, by rw [he]; exact h4, h5, h6, h7, h8, by rw [he]; exact h9, h10⟩
theorem vx_L.kept {C n d : String} {A : Nat → Prop} {U : State} {H H1 : Heap} (h : vx_L C n d A U H) (hq : ∀ a : Nat, a < H.size → ¬ A a → H1[a]? = H[a]?) : vx_L C n d A U H1 := by
  obtain ⟨c, k, i, f, a, cell, h1, h2, h3, h4, h5, h6, h7, h8, h9, h10⟩ := h
  exact ⟨c, k, i, f, a, cell, h1, h2, h3, h4, by rw [hq a (Array.getElem?_eq_some_iff.mp h5).1 h10]; exact h5, h6, h7, h8, h9, h10⟩
theorem vx_L.narrow {C n d : String} {A B : Nat → Prop} {U : State} {H : Heap} (h : vx_L C n d A U H) (hAB : ∀ q, B q → A q) : vx_L C n d B U H := by
  obtain ⟨c, k, i, f, a, cell, h1, h2, h3, h4, h5, h6, h7, h8, h9, h10⟩ := h
  exact ⟨c, k, i, f, a, cell, h1, h2, h3, h4, h5, h6, h7, h8, h9, fun z => h10 (hAB _ z)⟩
theorem vx_L.word {C n d : String} {A : Nat → Prop} {s : State} {args : Array Value} (h : vx_L C n d A s s.heap) : (Cond.laysStatic C n d).before args s = true := by
  obtain ⟨c, k, i, f, a, cell, h1, h2, h3, h4, h5, h6, h7, h8, h9, -⟩ := h
  show (Cond.laysStatic C n d).holds args s none s [] = true
  exact Cond.laysStatic_of h1 h2 h3 h4 h5 h6 h7 h8 h9
/-- .. and what it holds: null or some reference -/
def vx_Zq (C n d : String) (A : Nat → Prop) (U : State) (H : Heap) : Prop := va_Zq C n d A U H ∧ vx_L C n d A U H
theorem vx_Zq.moved {C n d : String} {A : Nat → Prop} {u U : State} {H : Heap} (hvm : u.vm.Alike U.vm) (h : vx_Zq C n d A u H) : vx_Zq C n d A U H := ⟨va_Zq.moved hvm h.1, vx_L.moved hvm h.2⟩
theorem vx_Zq.kept {C n d : String} {A : Nat → Prop} {U : State} {H H1 : Heap} (h : vx_Zq C n d A U H) (hq : ∀ a : Nat, a < H.size → ¬ A a → H1[a]? = H[a]?) : vx_Zq C n d A U H1 := ⟨va_Zq.kept h.1 hq, vx_L.kept h.2 hq⟩
theorem vx_Zq.narrow {C n d : String} {A B : Nat → Prop} {U : State} {H : Heap} (h : vx_Zq C n d A U H) (hAB : ∀ q, B q → A q) : vx_Zq C n d B U H := ⟨va_Zq.narrow h.1 hAB, vx_L.narrow h.2 hAB⟩
theorem vx_Zqof {args : Array Value} {s : State} {C n d : String} {A : Nat → Prop} (hl : (Cond.laysStatic C n d).before args s = true) (hini : (Cond.initialized C).before args s = true) (h : (Cond.isRef (.static C n d)).before args s = true) (hA : ∀ a : Nat, a < s.heap.size → ¬ A a) : vx_Zq C n d A s s.heap := by
  refine ⟨va_Zqof hl hini h hA, ?_⟩
  obtain ⟨c, k, i, f, a, cell, h1, h2, h3, h4, h5, h6, h7, h8, h9⟩ := Cond.laysStatic_spec hl
  exact ⟨c, k, i, f, a, cell, h1, h2, h3, h4, h5, h6, h7, h8, h9, hA a (Array.getElem?_eq_some_iff.mp h5).1⟩
theorem vx_isRef {C n d : String} {v : Value} {A : Nat → Prop} {s : State} {args : Array Value} (h : va_Z C n d v A s s.heap) (hv : v.isRef = true) : (Cond.isRef (.static C n d)).before args s = true := by
  obtain ⟨cf, kf, fi, f, a, cell, h1, h2, h3, h4, h5, h6, h7, -⟩ := h
  have he : (Term.static C n d).eval args s none [] s = some v := by
    simp [Term.eval, State.fieldNamed?, h1, h2, h4, h5, h6, h7]
  simp only [Cond.before, Cond.holds, Cond.value, he]
  cases v <;> simp_all [Value.isRef]
theorem vx_isRefq {C n d : String} {A : Nat → Prop} {s : State} {args : Array Value} (h : va_Zq C n d A s s.heap) : (Cond.isRef (.static C n d)).before args s = true := by
  rcases h with h | ⟨t, h⟩
  · exact vx_isRef h rfl
  · exact vx_isRef h rfl
/-- the same frame, seen from here: as if the method were called anew in this heap -/
theorem vx_rebase {T : State} (X : Stand p l e R s m args below meth c T locs cells slots) {R' : Room} (hf : R'.frames ≤ R.frames) (hl : R'.locals ≤ R.locals) (hc : cells + R'.cells ≤ R.cells) (hs : slots + R'.slots ≤ R.slots) :
    Stand p l e R' ((T.setVm s.vm).setFrames (.invoking m args :: below)) m args below meth c T [] 0 0 := by
  have htop : (T.setVm s.vm).topJava?.isSome := X.here.top
  have hF : ((T.setVm s.vm).setFrames (.invoking m args :: below)).frames = .invoking m args :: below := State.frames_setFrames _ (State.cur_lt_of_top htop)
  obtain ⟨g₀, hg0⟩ := Option.isSome_iff_exists.mp htop
  obtain ⟨r, hr⟩ := State.topJava?_eq_some.mp hg0
  have hl9 : e.platform.stackLimits (T.setVm s.vm).me = e.platform.stackLimits s.me := X.limits
  have hb9 : (T.setVm s.vm).me.stackBytes = s.me.stackBytes := X.bytes
  refine ⟨X.admits, X.cas, X.clock, hF, ?_, X.hears, X.method, X.code, X.here, X.tail, X.warmed, ?_, ?_, ?_⟩
  · have h := X.room
    have hU : ((T.setVm s.vm).setFrames (.invoking m args :: below)).localsInUse = s.localsInUse := by
      rw [State.localsInUse_invoking hF (meth := meth) (c := c) X.method X.code, State.localsInUse_invoking X.frames X.method X.code]
    simp only [State.hasRoom, Bool.and_eq_true, decide_eq_true_eq] at h ⊢
    obtain ⟨⟨⟨⟨h1, h2, h3, h4, h5, h6⟩, h7⟩, h8⟩, h9⟩ := h
    rw [X.frames, List.length_cons] at h2 h3
    have q1 := X.heapSize
    have q2 := X.used
    simp only [hF, hU, List.length_cons, State.stackLimits_setFrames, State.stackBytes_setFrames, hl9, hb9]
    refine ⟨⟨⟨⟨by omega, by omega, by omega, by omega, by omega, h6⟩, ?_⟩, ?_⟩, X.book⟩
    · show T.heap.size + R'.cells ≤ e.platform.maxCells
      omega
    · show T.slotsUsed + R'.slots ≤ e.platform.maxSlots
      omega
  · rw [State.stackLimits_setFrames]; rfl
  · rw [State.stackBytes_setFrames]; rfl
  · refine ⟨?_, Nat.le_refl _, Nat.le_refl _, ?_, ?_, fun a c9 h9 => ⟨c9, h9, rfl, rfl, fun _ _ => rfl⟩⟩
    · obtain ⟨t, ht, -⟩ := State.frames_cons hr
      show T.setVm s.vm = { ((T.setVm s.vm).setFrames (.invoking m args :: below)).setFrames (T.setVm s.vm).frames with heap := T.heap, slotsUsed := T.slotsUsed }
      rw [State.setFrames_setFrames, State.setFrames_self ht]
      rfl
    · show T.slotsUsed = T.slotsUsed + ((T.heap.toList.drop T.heap.size).map (·.slots.size)).sum
      rw [List.drop_eq_nil_of_le (Nat.le_of_eq Array.length_toList)]
      rfl
    · show ((T.heap.toList.drop T.heap.size).map (·.slots.size)).sum ≤ 0
      rw [List.drop_eq_nil_of_le (Nat.le_of_eq Array.length_toList)]
      exact Nat.le_refl _
/-- 'throw new E()': new; dup; invokespecial; athrow -/
theorem vx_throw0 {cc : ByteArray} {pc : Nat} (hexec : p.tables.exec = Jvm.exec) (hb : c.code = cc) (hl : l.stackTraces = false) {own cls : String} {names : List String} {ik ic mc ms : Nat} {A : Nat → Prop}
    (hown : s.vm.findClass own = some m.cls) (hcls : Bundle.fit cls = true) (hnames : ∀ n ∈ names, Bundle.fit n = true)
    (hk : (Cond.classLink own ik cls).before args s = true) (hini : (Cond.initialized cls).before args s = true) (hat : ∀ w ∈ vx_at0 own ic cls names, w.before args s = true)
    (hgood : ∀ w ∈ Cond.classLink own ik cls :: Cond.initialized cls :: vx_at0 own ic cls names, vx_ot w = true)
    (hU : vx_Zq Bundle.tN "UNASSIGNED_STACK" Bundle.steD A s s.heap) (hN : vx_Zq Bundle.tN "SUPPRESSED_SENTINEL" Bundle.listD A s s.heap) (hS : va_S A s.heap H locs) (hsize : ls.size = c.maxLocals)
    (d0 : decode cc pc = .ok (.new ik, 3)) (d3 : decode cc (pc + 3) = .ok (.dup, 1)) (d4 : decode cc (pc + 4) = .ok (.invokespecial ic, 3)) (d7 : decode cc (pc + 7) = .ok (.athrow, 1))
    (hout : ∀ x ∈ c.exceptionTable.toList, covers x (pc + 7) = false)
    (hRframes : names.length + 3 < R.frames) (hRlocals : (rest.map fun v => v.category).sum + (13 * (names.length + 1) + 42) ≤ R.locals) (hRcells : cells + 1 ≤ R.cells) (hRslots : slots + 6 ≤ R.slots) (hlocks : meth.locks = false)
    (hx : ∀ t : State, s.vm.Alike t.vm → H.size ≤ t.heap.size → (∀ q : Nat, q < H.size → t.heap[q]? = H[q]?) → XC cls s t)
    (hf : ∀ z ∈ locs, free z.base) (hc : cells + 1 ≤ mc) (hs : slots + 6 ≤ ms) :
    W p l e R s m args below meth c H locs cells slots (vx_MQ below Qc XC args s mc ms free) (F0 m pc ls rest) := by
  intro T hT X
  have htr : e.platform.stackTraces = false := (show e.platform.stackTraces = l.stackTraces by rw [X.admits.platform]).trans hl
  have Y := vx_rebase X (R' := { frames := R.frames, locals := R.locals, cells := 1, slots := 6 }) (Nat.le_refl _) (Nat.le_refl _) hRcells hRslots
  obtain ⟨s', hA⟩ : ∃ z, z = (T.setVm s.vm).setFrames (.invoking m args :: below) := ⟨_, rfl⟩
  rw [← hA] at Y
  have hvm : s'.vm = s.vm := by rw [hA]; rfl
  have hhp : s'.heap = H := by rw [hA]; exact hT
  have hW0 : s.WarmedH s'.vm := by rw [hvm]; exact State.WarmedH.refl s
  have hat' : ∀ w ∈ vx_at0 own ic cls names, w.before args s' = true := fun w hw => vx_ot_at hW0 hvm.symm (hgood w (List.mem_cons_of_mem _ (List.mem_cons_of_mem _ hw))) (hat w hw)
  have hk' : (Cond.classLink own ik cls).before args s' = true := vx_ot_at hW0 hvm.symm (hgood _ List.mem_cons_self) hk
  have hini' : (Cond.initialized cls).before args s' = true := vx_ot_at hW0 hvm.symm (hgood _ (List.mem_cons_of_mem _ List.mem_cons_self)) hini
  have hU' : vx_Zq Bundle.tN "UNASSIGNED_STACK" Bundle.steD A s' s'.heap := by rw [hhp]; exact vx_Zq.moved hW0.alike (hU.kept hS.2.1)
  have hN' : vx_Zq Bundle.tN "SUPPRESSED_SENTINEL" Bundle.listD A s' s'.heap := by rw [hhp]; exact vx_Zq.moved hW0.alike (hN.kept hS.2.1)
  have h : ∀ w ∈ Bundle.ownAtoms0 own ic cls names, w.before args s' = true := vx_own hat' (vx_isRefq hU'.1) (vx_isRefq hN'.1) hU'.2.word hN'.2.word
  have hown' : s'.vm.findClass own = some m.cls := by rw [hvm]; exact hown
  have hins : (Cond.instantiable cls 6).before args s' = true := h _ (by simp [Bundle.ownAtoms0])
  obtain ⟨vm₁, cX, kX, hfX, hkX, -, -, X₁, st1⟩ := Y.newCold hexec (own := own) (C := cls) (index := ik) (n := 6) hown' hk' hins hini'
    (g := F0 m pc ls rest) rfl (by rw [hb]; exact d0) (Nat.le_refl _) (Nat.le_refl _)
  generalize hT1 : (T.setVm vm₁).pushCell { cls := cX, slots := kX.instanceTypes.map defaultValue, vm := .none } = T1 at X₁ st1
  have hcat : (Value.ref T.heap.size).category = 1 := rfl
  have hcellA : T1.heap[T.heap.size]? = some (freshCell cX kX) := by rw [← hT1]; exact State.heap_pushCell_size _ _
  have d3' : decode c.code (pc + 3) = .ok (.dup, 1) := by rw [hb]; exact d3
  obtain ⟨U, hsteps, hrun, hend, hW, hsame, ce, hce, hO⟩ := X₁.ctorThrow0 hexec htr (own := own) (cls := cls) (names := names) (ic := ic) hown' hcls hnames h (fun x hx => nomatch hx) hfX hkX hcellA (by rw [hhp, hT]; exact Nat.le_refl _)
    (g := { method := m, pc := pc + 4, locals := ls, stack := .ref T.heap.size :: .ref T.heap.size :: rest, locked := none }) rfl hsize rfl rfl (rest := rest) rfl
    (by rw [hb]; exact d4) (by rw [hb]; exact d7) hout hRframes (by simp only [List.map_cons, List.sum_cons, hcat]; omega) hlocks
  obtain ⟨f1, f2⟩ := vx_frame hsame
  rw [hhp] at f1 f2
  have hWs : s.WarmedH U.vm := State.WarmedH.trans hW0 hW
  have hcl : s.vm.findClass cls = some ce.cls := by
    have h9 := hO.cls
    rw [hvm] at h9
    exact h9
  have hall : s.sameButNew ({ U with vm := s.vm } : State) locs mc ms := by
    subst hA
    obtain ⟨e1, e2⟩ := hsame
    rw [State.setFrames_setFrames] at e1
    have h2 : (T.setVm s.vm).sameButNew ({ U with vm := s.vm } : State) [] (0 + 1) (0 + 6) := ⟨e1, e2⟩
    have h3 := X.same.trans h2
    rw [List.append_nil] at h3
    exact h3.mono hc hs
  refine ⟨U, ?_, .threw T.heap.size, hrun, hend, Or.inr ⟨T.heap.size, rfl, cls, ce, locs, hx U hWs.alike f1 (fun q hq => f2 q hq (fun z hz => nomatch hz)), hce, hO.vm, hcl, hWs, hall, hf⟩⟩
  refine st1 _ ?_
  show Steps p.tables e below (T1.setTop { method := m, pc := pc + 3, locals := ls, stack := .ref T.heap.size :: rest, locked := none }) _
  jvm_step X₁.here [X₁.here.top, hexec, d3', Value.category]
  exact hsteps
/-- 'throw new E("text")': new; dup; ldc; invokespecial; athrow -/
theorem vx_throwS {cc : ByteArray} {pc : Nat} (hexec : p.tables.exec = Jvm.exec) (hb : c.code = cc) (hl : l.stackTraces = false) {own cls text : String} {names : List String} {ik is ic mc ms sa : Nat} {A : Nat → Prop}
    (hown : s.vm.findClass own = some m.cls) (hcls : Bundle.fit cls = true) (hnames : ∀ n ∈ names, Bundle.fit n = true)
    (hk : (Cond.classLink own ik cls).before args s = true) (hini : (Cond.initialized cls).before args s = true) (hstr : vk_R own is text sa s) (hat : ∀ w ∈ vx_atS own ic cls names, w.before args s = true)
    (hgood : ∀ w ∈ Cond.classLink own ik cls :: Cond.initialized cls :: vx_atS own ic cls names, vx_ot w = true)
    (hU : vx_Zq Bundle.tN "UNASSIGNED_STACK" Bundle.steD A s s.heap) (hN : vx_Zq Bundle.tN "SUPPRESSED_SENTINEL" Bundle.listD A s s.heap) (hS : va_S A s.heap H locs) (hsize : ls.size = c.maxLocals)
    (d0 : decode cc pc = .ok (.new ik, 3)) (d3 : decode cc (pc + 3) = .ok (.dup, 1)) (d4 : decode cc (pc + 4) = .ok (.ldc is, 2)) (d6 : decode cc (pc + 6) = .ok (.invokespecial ic, 3)) (d9 : decode cc (pc + 9) = .ok (.athrow, 1))
    (hout : ∀ x ∈ c.exceptionTable.toList, covers x (pc + 9) = false)
    (hRframes : names.length + 3 < R.frames) (hRlocals : (rest.map fun v => v.category).sum + (13 * (names.length + 1) + 43) ≤ R.locals) (hRcells : cells + 1 ≤ R.cells) (hRslots : slots + 6 ≤ R.slots) (hlocks : meth.locks = false)
    (hx : ∀ t : State, s.vm.Alike t.vm → H.size ≤ t.heap.size → (∀ q : Nat, q < H.size → t.heap[q]? = H[q]?) → XC cls s t)
    (hf : ∀ z ∈ locs, free z.base) (hc : cells + 1 ≤ mc) (hs : slots + 6 ≤ ms) :
    W p l e R s m args below meth c H locs cells slots (vx_MQ below Qc XC args s mc ms free) (F0 m pc ls rest) := by
  intro T hT X
  have htr : e.platform.stackTraces = false := (show e.platform.stackTraces = l.stackTraces by rw [X.admits.platform]).trans hl
  have Y := vx_rebase X (R' := { frames := R.frames, locals := R.locals, cells := 1, slots := 6 }) (Nat.le_refl _) (Nat.le_refl _) hRcells hRslots
  obtain ⟨s', hA⟩ : ∃ z, z = (T.setVm s.vm).setFrames (.invoking m args :: below) := ⟨_, rfl⟩
  rw [← hA] at Y
  have hvm : s'.vm = s.vm := by rw [hA]; rfl
  have hhp : s'.heap = H := by rw [hA]; exact hT
  have hW0 : s.WarmedH s'.vm := by rw [hvm]; exact State.WarmedH.refl s
  have hat' : ∀ w ∈ vx_atS own ic cls names, w.before args s' = true := fun w hw => vx_ot_at hW0 hvm.symm (hgood w (List.mem_cons_of_mem _ (List.mem_cons_of_mem _ hw))) (hat w hw)
  have hk' : (Cond.classLink own ik cls).before args s' = true := vx_ot_at hW0 hvm.symm (hgood _ List.mem_cons_self) hk
  have hini' : (Cond.initialized cls).before args s' = true := vx_ot_at hW0 hvm.symm (hgood _ (List.mem_cons_of_mem _ List.mem_cons_self)) hini
  have hU' : vx_Zq Bundle.tN "UNASSIGNED_STACK" Bundle.steD A s' s'.heap := by rw [hhp]; exact vx_Zq.moved hW0.alike (hU.kept hS.2.1)
  have hN' : vx_Zq Bundle.tN "SUPPRESSED_SENTINEL" Bundle.listD A s' s'.heap := by rw [hhp]; exact vx_Zq.moved hW0.alike (hN.kept hS.2.1)
  have h : ∀ w ∈ Bundle.ownAtoms own ic cls names, w.before args s' = true := vx_own hat' (vx_isRefq hU'.1) (vx_isRefq hN'.1) hU'.2.word hN'.2.word
  have hown' : s'.vm.findClass own = some m.cls := by rw [hvm]; exact hown
  have hins : (Cond.instantiable cls 6).before args s' = true := h _ (by simp [Bundle.ownAtoms])
  obtain ⟨vm₁, cX, kX, hfX, hkX, -, -, X₁, st1⟩ := Y.newCold hexec (own := own) (C := cls) (index := ik) (n := 6) hown' hk' hins hini'
    (g := F0 m pc ls rest) rfl (by rw [hb]; exact d0) (Nat.le_refl _) (Nat.le_refl _)
  generalize hT1 : (T.setVm vm₁).pushCell { cls := cX, slots := kX.instanceTypes.map defaultValue, vm := .none } = T1 at X₁ st1
  have hcat : (Value.ref T.heap.size).category = 1 := rfl
  have hcellA : T1.heap[T.heap.size]? = some (freshCell cX kX) := by rw [← hT1]; exact State.heap_pushCell_size _ _
  have d3' : decode c.code (pc + 3) = .ok (.dup, 1) := by rw [hb]; exact d3
  have d4' : decode c.code (pc + 4) = .ok (.ldc is, 2) := by rw [hb]; exact d4
  have hstr' : vk_R own is text sa s' := vk_R.warm hW0 hstr
  obtain ⟨U, hsteps, hrun, hend, hW, hsame, ce, hce, hO⟩ := X₁.ctorThrowS hexec htr (own := own) (cls := cls) (names := names) (ic := ic) hown' hcls hnames h (fun x hx => nomatch hx) hfX hkX hcellA (by rw [hhp, hT]; exact Nat.le_refl _) (msg := .ref sa) rfl
    (g := { method := m, pc := pc + 6, locals := ls, stack := .ref sa :: .ref T.heap.size :: .ref T.heap.size :: rest, locked := none }) rfl hsize rfl rfl (rest := rest) rfl
    (by rw [hb]; exact d6) (by rw [hb]; exact d9) hout hRframes (by simp only [List.map_cons, List.sum_cons, hcat]; omega) hlocks
  obtain ⟨f1, f2⟩ := vx_frame hsame
  rw [hhp] at f1 f2
  have hWs : s.WarmedH U.vm := State.WarmedH.trans hW0 hW
  have hcl : s.vm.findClass cls = some ce.cls := by
    have h9 := hO.cls
    rw [hvm] at h9
    exact h9
  have hall : s.sameButNew ({ U with vm := s.vm } : State) locs mc ms := by
    subst hA
    obtain ⟨e1, e2⟩ := hsame
    rw [State.setFrames_setFrames] at e1
    have h2 : (T.setVm s.vm).sameButNew ({ U with vm := s.vm } : State) [] (0 + 1) (0 + 6) := ⟨e1, e2⟩
    have h3 := X.same.trans h2
    rw [List.append_nil] at h3
    exact h3.mono hc hs
  refine ⟨U, ?_, .threw T.heap.size, hrun, hend, Or.inr ⟨T.heap.size, rfl, cls, ce, locs, hx U hWs.alike f1 (fun q hq => f2 q hq (fun z hz => nomatch hz)), hce, hO.vm, hcl, hWs, hall, hf⟩⟩
  refine st1 _ ?_
  show Steps p.tables e below (T1.setTop { method := m, pc := pc + 3, locals := ls, stack := .ref T.heap.size :: rest, locked := none }) _
  jvm_step X₁.here [X₁.here.top, hexec, d3', Value.category]
  exact X₁.ldcString hexec (own := own) (text := text) (index := is) (a := sa) hown' hstr'.1 hstr'.2
    (g := { method := m, pc := pc + 4, locals := ls, stack := .ref T.heap.size :: .ref T.heap.size :: rest, locked := none }) rfl d4' _ hsteps
/-- 'throw new E("text")', the text by a wide index -/
theorem vx_throwSW {cc : ByteArray} {pc : Nat} (hexec : p.tables.exec = Jvm.exec) (hb : c.code = cc) (hl : l.stackTraces = false) {own cls text : String} {names : List String} {ik is ic mc ms sa : Nat} {A : Nat → Prop}
    (hown : s.vm.findClass own = some m.cls) (hcls : Bundle.fit cls = true) (hnames : ∀ n ∈ names, Bundle.fit n = true)
    (hk : (Cond.classLink own ik cls).before args s = true) (hini : (Cond.initialized cls).before args s = true) (hstr : vk_R own is text sa s) (hat : ∀ w ∈ vx_atS own ic cls names, w.before args s = true)
    (hgood : ∀ w ∈ Cond.classLink own ik cls :: Cond.initialized cls :: vx_atS own ic cls names, vx_ot w = true)
    (hU : vx_Zq Bundle.tN "UNASSIGNED_STACK" Bundle.steD A s s.heap) (hN : vx_Zq Bundle.tN "SUPPRESSED_SENTINEL" Bundle.listD A s s.heap) (hS : va_S A s.heap H locs) (hsize : ls.size = c.maxLocals)
    (d0 : decode cc pc = .ok (.new ik, 3)) (d3 : decode cc (pc + 3) = .ok (.dup, 1)) (d4 : decode cc (pc + 4) = .ok (.ldc_w is, 3)) (d7 : decode cc (pc + 7) = .ok (.invokespecial ic, 3)) (d10 : decode cc (pc + 10) = .ok (.athrow, 1))
    (hout : ∀ x ∈ c.exceptionTable.toList, covers x (pc + 10) = false)
    (hRframes : names.length + 3 < R.frames) (hRlocals : (rest.map fun v => v.category).sum + (13 * (names.length + 1) + 43) ≤ R.locals) (hRcells : cells + 1 ≤ R.cells) (hRslots : slots + 6 ≤ R.slots) (hlocks : meth.locks = false)
    (hx : ∀ t : State, s.vm.Alike t.vm → H.size ≤ t.heap.size → (∀ q : Nat, q < H.size → t.heap[q]? = H[q]?) → XC cls s t)
    (hf : ∀ z ∈ locs, free z.base) (hc : cells + 1 ≤ mc) (hs : slots + 6 ≤ ms) :
    W p l e R s m args below meth c H locs cells slots (vx_MQ below Qc XC args s mc ms free) (F0 m pc ls rest) := by
  intro T hT X
  have htr : e.platform.stackTraces = false := (show e.platform.stackTraces = l.stackTraces by rw [X.admits.platform]).trans hl
  have Y := vx_rebase X (R' := { frames := R.frames, locals := R.locals, cells := 1, slots := 6 }) (Nat.le_refl _) (Nat.le_refl _) hRcells hRslots
  obtain ⟨s', hA⟩ : ∃ z, z = (T.setVm s.vm).setFrames (.invoking m args :: below) := ⟨_, rfl⟩
  rw [← hA] at Y
  have hvm : s'.vm = s.vm := by rw [hA]; rfl
  have hhp : s'.heap = H := by rw [hA]; exact hT
  have hW0 : s.WarmedH s'.vm := by rw [hvm]; exact State.WarmedH.refl s
  have hat' : ∀ w ∈ vx_atS own ic cls names, w.before args s' = true := fun w hw => vx_ot_at hW0 hvm.symm (hgood w (List.mem_cons_of_mem _ (List.mem_cons_of_mem _ hw))) (hat w hw)
  have hk' : (Cond.classLink own ik cls).before args s' = true := vx_ot_at hW0 hvm.symm (hgood _ List.mem_cons_self) hk
  have hini' : (Cond.initialized cls).before args s' = true := vx_ot_at hW0 hvm.symm (hgood _ (List.mem_cons_of_mem _ List.mem_cons_self)) hini
  have hU' : vx_Zq Bundle.tN "UNASSIGNED_STACK" Bundle.steD A s' s'.heap := by rw [hhp]; exact vx_Zq.moved hW0.alike (hU.kept hS.2.1)
  have hN' : vx_Zq Bundle.tN "SUPPRESSED_SENTINEL" Bundle.listD A s' s'.heap := by rw [hhp]; exact vx_Zq.moved hW0.alike (hN.kept hS.2.1)
  have h : ∀ w ∈ Bundle.ownAtoms own ic cls names, w.before args s' = true := vx_own hat' (vx_isRefq hU'.1) (vx_isRefq hN'.1) hU'.2.word hN'.2.word
  have hown' : s'.vm.findClass own = some m.cls := by rw [hvm]; exact hown
  have hins : (Cond.instantiable cls 6).before args s' = true := h _ (by simp [Bundle.ownAtoms])
  obtain ⟨vm₁, cX, kX, hfX, hkX, -, -, X₁, st1⟩ := Y.newCold hexec (own := own) (C := cls) (index := ik) (n := 6) hown' hk' hins hini'
    (g := F0 m pc ls rest) rfl (by rw [hb]; exact d0) (Nat.le_refl _) (Nat.le_refl _)
  generalize hT1 : (T.setVm vm₁).pushCell { cls := cX, slots := kX.instanceTypes.map defaultValue, vm := .none } = T1 at X₁ st1
  have hcat : (Value.ref T.heap.size).category = 1 := rfl
  have hcellA : T1.heap[T.heap.size]? = some (freshCell cX kX) := by rw [← hT1]; exact State.heap_pushCell_size _ _
  have d3' : decode c.code (pc + 3) = .ok (.dup, 1) := by rw [hb]; exact d3
  have d4' : decode c.code (pc + 4) = .ok (.ldc_w is, 3) := by rw [hb]; exact d4
  have hstr' : vk_R own is text sa s' := vk_R.warm hW0 hstr
  obtain ⟨U, hsteps, hrun, hend, hW, hsame, ce, hce, hO⟩ := X₁.ctorThrowS hexec htr (own := own) (cls := cls) (names := names) (ic := ic) hown' hcls hnames h (fun x hx => nomatch hx) hfX hkX hcellA (by rw [hhp, hT]; exact Nat.le_refl _) (msg := .ref sa) rfl
    (g := { method := m, pc := pc + 7, locals := ls, stack := .ref sa :: .ref T.heap.size :: .ref T.heap.size :: rest, locked := none }) rfl hsize rfl rfl (rest := rest) rfl
    (by rw [hb]; exact d7) (by rw [hb]; exact d10) hout hRframes (by simp only [List.map_cons, List.sum_cons, hcat]; omega) hlocks
  obtain ⟨f1, f2⟩ := vx_frame hsame
  rw [hhp] at f1 f2
  have hWs : s.WarmedH U.vm := State.WarmedH.trans hW0 hW
  have hcl : s.vm.findClass cls = some ce.cls := by
    have h9 := hO.cls
    rw [hvm] at h9
    exact h9
  have hall : s.sameButNew ({ U with vm := s.vm } : State) locs mc ms := by
    subst hA
    obtain ⟨e1, e2⟩ := hsame
    rw [State.setFrames_setFrames] at e1
    have h2 : (T.setVm s.vm).sameButNew ({ U with vm := s.vm } : State) [] (0 + 1) (0 + 6) := ⟨e1, e2⟩
    have h3 := X.same.trans h2
    rw [List.append_nil] at h3
    exact h3.mono hc hs
  refine ⟨U, ?_, .threw T.heap.size, hrun, hend, Or.inr ⟨T.heap.size, rfl, cls, ce, locs, hx U hWs.alike f1 (fun q hq => f2 q hq (fun z hz => nomatch hz)), hce, hO.vm, hcl, hWs, hall, hf⟩⟩
  refine st1 _ ?_
  show Steps p.tables e below (T1.setTop { method := m, pc := pc + 3, locals := ls, stack := .ref T.heap.size :: rest, locked := none }) _
  jvm_step X₁.here [X₁.here.top, hexec, d3', Value.category]
  exact X₁.ldcStringW hexec (own := own) (text := text) (index := is) (a := sa) hown' hstr'.1 hstr'.2
    (g := { method := m, pc := pc + 4, locals := ls, stack := .ref T.heap.size :: .ref T.heap.size :: rest, locked := none }) rfl d4' _ hsteps
end Ends
section Bodies
variable {l : Launch}
theorem vx_ofW {y : MethodName} {ws ws' : List Cond} {rm : Room} {Pc : Array Value → State → Prop} {Qc : Array Value → State → Outcome → State → Prop} {XC : String → State → State → Prop} {mc ms : Nat} {free : Addr → Prop} {cc : ByteArray} {maxL : Nat} {ret : Option FieldType}
    (hy : plainName y.cls = true) (hw : ws = Cond.code y cc maxL ret :: ws')
    (body : ∀ p e s m args below meth c s₁, BodyLoose p l y (headSpec ws rm) cc maxL ret e s m args below meth c s₁ → c.maxLocals = maxL → (∀ x ∈ c.exceptionTable.toList, False) → Pc args s →
      W p l e (headSpec ws rm).room s m args below meth c s.heap [] 0 0 (vx_MQ below Qc XC args s mc ms free) (entryFrame m args maxL)) : vx_Met l y ws rm Pc Qc XC mc ms free := by
  refine MetFree.of_bodyS (code := cc) (maxLocals := maxL) (ret := ret) hy ?_ ?_
  · intro args s m h hn
    obtain ⟨meth, c, h1, h2, h3, h4, h5, h6, -, -⟩ := Cond.code_spec hn (atoms_spec (ws := ws) h _ (by rw [hw]; exact List.mem_cons_self))
    exact ⟨meth, c, h1, h2, h3, h4, h5, h6⟩
  · intro p e s m args below meth c s₁ B hml hP _
    have hh0 : s₁.heap = s.heap := by rw [B.state]; rfl
    have ht : ∀ x ∈ c.exceptionTable.toList, False := by
      obtain ⟨meth9, c9, h1, h2, -, -, -, -, h7, -⟩ := Cond.code_spec B.named (atoms_spec (ws := ws) B.pre _ (by rw [hw]; exact List.mem_cons_self))
      cases Option.some.inj (h1.symm.trans B.method)
      cases Option.some.inj (h2.symm.trans (Stand.of_body B).code)
      intro x hx
      rw [Array.isEmpty_iff.mp h7] at hx
      cases hx
    obtain ⟨t, a1, o, b1, b2, b3⟩ := body p e s m args below meth c s₁ B hml ht hP s₁ hh0 (Stand.of_body B)
    exact ⟨t, o, a1, b1, b2, b3⟩
/-- the table of a body with handlers -/
theorem vx_table {p : Program} {x y : MethodName} {S : Spec} {cc bytes : ByteArray} {maxL maxL' : Nat} {ret ret' : Option FieldType} {e : Env} {s s₁ : State} {m : MethodId} {args : Array Value} {below : List Frame} {meth : Method} {c : Code} {hh : List (Nat × Nat × Nat × Nat)}
    (B : BodyLoose p l y S cc maxL ret e s m args below meth c s₁) (h : (Cond.codeWith y bytes maxL' ret' hh).before args s = true) : c.exceptionTable.toList = tableOf hh := by
  obtain ⟨m9, meth9, c9, hn9, h1, h2, -, -, h6, -⟩ := Cond.codeWith_spec h
  cases Option.some.inj (hn9.symm.trans B.named)
  cases Option.some.inj (h1.symm.trans B.method)
  cases Option.some.inj (h2.symm.trans (Stand.of_body B).code)
  rw [← h6, table_eq]
end Bodies
end VXA
/-! ===== END ===== -/
/-! ===== BEGIN a static call of a method with an exception table ===== -/
section VXS
variable {p : Program} {l : Launch} {e : Env} {R : Room} {s : State} {m : MethodId} {args : Array Value} {below : List Frame} {meth : Method} {c : Code} {T : State} {H : Heap} {locs : List Loc} {cells slots : Nat}
abbrev vx_CSW (R : Room) (s : State) (args : Array Value) (own : String) (index : Nat) (y : MethodName) (bytes : ByteArray) (maxL : Nat) (ret : Option FieldType) (hh : List (Nat × Nat × Nat × Nat)) (ws : List Cond) (rm : Room) (mc ms n : Nat) : Prop :=
  (rm.cells = mc ∧ rm.slots = ms ∧ rm.frames + 1 ≤ R.frames ∧ 8 + (maxL + 11) + rm.locals ≤ R.locals ∧ (∀ w ∈ ws, ∀ (a' : Array Value) (U : State), s.WarmedH U.vm → w.before a' U = true) ∧ Cond.codeWith y bytes maxL ret hh ∈ ws) ∧
  (Cond.codeWith y bytes maxL ret hh).before args s = true ∧ (Cond.initialized y.cls).before args s = true ∧ (y.cls ≠ "java/lang/invoke/MethodHandle" ∧ y.cls ≠ "java/lang/invoke/VarHandle") ∧
  (∀ sig, parseMethodDescriptor y.desc = some sig → n = sig.parameters.length) ∧ (Cond.methodLink own index y).before args s = true ∧ (Cond.static y).before args s = true
theorem vx_cwSW {own : String} {index maxL mc ms : Nat} {y : MethodName} {bytes : ByteArray} {ret : Option FieldType} {hh : List (Nat × Nat × Nat × Nat)} {Ts ws ws' : List Cond} {rm : Room} (n : Nat) (ht : ∀ w ∈ Ts, w.before args s = true) (hT : GoodIn Ts (va_wsS own index y ws)) (hw : ws = Cond.codeWith y bytes maxL ret hh :: ws') (hrc : rm.cells = mc) (hrs : rm.slots = ms)
    (hd : y.cls ≠ "java/lang/invoke/MethodHandle" ∧ y.cls ≠ "java/lang/invoke/VarHandle" ∧ (parseMethodDescriptor y.desc).map (fun d => d.parameters.length) = some n) (hR : rm.frames + 1 ≤ R.frames ∧ 8 + (maxL + 11) + rm.locals ≤ R.locals) :
    vx_CSW R s args own index y bytes maxL ret hh ws rm mc ms n := by
  have ok : ∀ w ∈ va_wsS own index y ws, w.before args s = true := fun w h => ht w (hT w h).1
  have hG : GoodIn Ts ws := fun w h => hT w (by unfold va_wsS; exact List.mem_append_right _ h)
  have hc : Cond.codeWith y bytes maxL ret hh ∈ ws := by rw [hw]; exact List.mem_cons_self
  refine ⟨⟨hrc, hrs, hR.1, hR.2, pay_in ht hG, hc⟩, ht _ (hG _ hc).1, ok _ (by simp [va_wsS]), ⟨hd.1, hd.2.1⟩, fun sig h => ?_, ok _ (by simp [va_wsS]), ok _ (by simp [va_wsS])⟩
  have h2 := hd.2.2
  rw [h] at h2
  exact (Option.some.inj h2).symm
theorem vx_callSW (X : Stand p l e R s m args below meth c T locs cells slots) (hexec : p.tables.exec = Jvm.exec) {own : String} {index : Nat} {y : MethodName} {bytes : ByteArray} {maxL : Nat} {ret : Option FieldType} {hh : List (Nat × Nat × Nat × Nat)}
    (hown : s.vm.findClass own = some m.cls) (hlink : (Cond.methodLink own index y).before args s = true) (hstat : (Cond.static y).before args s = true) (hinit : (Cond.initialized y.cls).before args s = true)
    (hcode : (Cond.codeWith y bytes maxL ret hh).before args s = true) (hy : y.cls ≠ "java/lang/invoke/MethodHandle" ∧ y.cls ≠ "java/lang/invoke/VarHandle")
    {W9 : Nat} {Pre : Pt → Array Value → Prop} {Post : Pt → Array Value → Option Value → Pt → Prop} (hK : Back l R p e below s args y 3 W9 Pre Post)
    {g : JFrame} (hg : g.method = m) (hsize : g.locals.size = c.maxLocals) {argsL rest : List Value} (hlen : ∀ sig, parseMethodDescriptor y.desc = some sig → argsL.length = sig.parameters.length)
    (hstack : g.stack = argsL.reverse ++ rest) (hW : 2 * g.monitorRoom + (rest.map fun v => v.category).sum ≤ W9) (hdg : decode c.code g.pc = .ok (.invokestatic index, 3))
    (hpre : ∀ vm₁, s.WarmedH vm₁ → Pre ⟨T.setVm vm₁, locs, cells, slots⟩ argsL.toArray) :
    ∃ (v : Option Value) (vm₁ : Vm) (B : Pt), s.WarmedH vm₁ ∧ Stand p l e R s m args below meth c B.U B.locs B.cells B.slots ∧ Post ⟨T.setVm vm₁, locs, cells, slots⟩ argsL.toArray v B ∧
      ∀ target, Steps p.tables e below (B.U.setTop { g with pc := g.pc + 3, stack := v.toList ++ rest }) target → Steps p.tables e below (T.setTop g) target := by
  obtain ⟨mk, methM, cM, hnamed, hmethM, -, -, -, -, -, -, hsigM⟩ := Cond.codeWith_spec hcode
  have hstatic : methM.isStatic = true := Cond.static_spec hnamed hmethM hstat
  obtain ⟨kP, hkP, -⟩ := className_of_methodNamed hnamed
  have hinitP : kP.init = .initialized := Cond.initialized_spec (findClass_of_methodNamed hnamed) hkP hinit
  obtain ⟨vm₁, X₁, hstep₁⟩ := X.invokestatic hexec hown hlink hnamed hmethM hstatic hkP hinitP hy (g := g) hg (argsL := argsL) (rest := rest) (hlen _ hsigM) hstack hdg
  obtain ⟨v, B, X', hpost, hsteps⟩ := hK m meth c ⟨T.setVm vm₁, locs, cells, slots⟩ { g with stack := rest } (.invokestatic index) mk argsL.toArray X₁ hg hsize hdg hW (X₁.named hnamed) (hpre vm₁ X₁.warmed)
  exact ⟨v, vm₁, B, X₁.warmed, X', hpost, fun target h => hstep₁ _ fun acts => by rw [doInvoke_state]; exact hsteps.trans h⟩
theorem vx_runSW {y : MethodName} {bytes cc : ByteArray} {maxL nL mc ms n index : Nat} {ret : Option FieldType} {hh : List (Nat × Nat × Nat × Nat)} {ws : List Cond} {rm : Room} {Pc : Array Value → State → Prop} {Qc : Array Value → State → Outcome → State → Prop} {free : Addr → Prop} {Ts : List Cond} {own : String} {As rest : List Value} {g : JFrame}
    (S : CallFix p m c cc nL s args Ts own) (hM : Met l y ws rm Pc Qc mc ms free) (cw : vx_CSW R s args own index y bytes maxL ret hh ws rm mc ms n) (hp : PreS s H Pc As)
    (hg : g.method = m) (hn : As.length = n) (hsize : g.locals.size = nL) (hstack : g.stack = As.reverse ++ rest) (hW : 2 * g.monitorRoom + (rest.map fun v => v.category).sum ≤ 8) (hdg : decode cc g.pc = .ok (.invokestatic index, 3)) (hf : cells + mc ≤ R.cells ∧ slots + ms ≤ R.slots) :
    va_Run p l e R s m args below meth c H locs cells slots mc ms g rest (Qc As.toArray) (free) := by
  obtain ⟨⟨hrc, hrs, hfr, hlo, hws, hcw⟩, hcode, hini, hy, hlen, hl, hstt⟩ := cw
  have hK : Back l R p e below s args y 3 8 (PreOf R mc ms Pc) (PostOf Qc mc ms free) := va_backW (hh := hh) (bytes := bytes) (maxL := maxL) (ret := ret) hM hp.1 hrc hrs hfr hlo hws hcw (fun a' U hW => word_at hW (Or.inl (by first | rfl | simp [Cond.onTables, Cond.keeps, Cond.steady])) hini)
  obtain ⟨hx, hb, hml, ho, -⟩ := S
  intro T hT X
  obtain ⟨v, vm₁, ⟨U', l2, c2, s2⟩, hW₁, X', ⟨g', mk, t, L, e1, e2, hq, h1, hL, h2, h3⟩, st⟩ := vx_callSW X hx (hh := hh) (bytes := bytes) (maxL := maxL) (ret := ret) ho hl hstt hini hcode hy hK hg (hsize.trans hml.symm) (argsL := As) (rest := rest) (fun sig h => hn.trans (hlen sig h)) hstack hW (by rw [hb]; exact hdg)
    (fun vm₁ hW₁ => ⟨hf.1, hf.2, hp.2 (T.setVm vm₁) hT hW₁⟩)
  dsimp only [Pt.U, Pt.locs, Pt.cells, Pt.slots] at X' e1 e2 h1 h2 h3 st
  subst h1; subst h2; subst h3
  exact ⟨v, (T.setVm vm₁).calling g' mk As.toArray, t, U', L, hT, X', hL, e1, e2, hq, st⟩
/-- not caught here, past rows that name other classes: it goes on to the caller -/
theorem vx_outP {p : Program} {l : Launch} {e : Env} {R : Room} {s : State} {m : MethodId} {args : Array Value} {below : List Frame} {meth : Method} {c : Code} {H : Heap} {locs : List Loc} {cells slots : Nat} {free : Addr → Prop} {ls : Array Slot} {rest : List Value} {Qc : Array Value → State → Outcome → State → Prop} {XC : String → State → State → Prop}
    {pc : Nat} {own E : String} {ce : Cell} {q : Addr} {mc ms : Nat} (hown : s.vm.findClass own = some m.cls) (hlocks : meth.locks = false)
    (hpass : ∀ z ∈ c.exceptionTable.toList, covers z pc = false ∨ (z.catchType ≠ 0 ∧ ∃ nm : String, (Cond.classLink own z.catchType nm).before args s = true ∧ va_Nc E nm s)) (hcell : H[q]? = some ce) (hv : ce.vm = .none) (hcl : s.vm.findClass E = some ce.cls)
    (hx : ∀ t : State, t.heap = H → s.vm.Alike t.vm → XC E s t) (hf : ∀ z ∈ locs, free z.base) (hc : cells ≤ mc) (hs : slots ≤ ms) :
    vx_W p l e R s m args below meth c H locs cells slots (vx_MQ below Qc XC args s mc ms free) (F0 m pc ls rest) q := by
  intro T hT X
  have hpl : e.platform.magicAccessors = ({} : Platform).magicAccessors := by rw [X.admits.platform]
  obtain ⟨vm', hW', X', st⟩ := X.outThrough hlocks q (g := F0 m pc ls rest) rfl rfl rfl (cell := ce) (by rw [hT]; exact hcell) (by rw [hv]; rfl)
    (by obtain ⟨k9, h9, -⟩ := Vm.findClass_spec hcl; exact ⟨k9, h9⟩) (fun z hz => by
      rcases hpass z hz with h | ⟨hz0, nm, hl1, hn1⟩
      · exact Or.inl h
      · obtain ⟨c6, hc6, hcl6⟩ := Cond.classLink_spec hown hl1 e.platform hpl
        obtain ⟨a8, b8, h1, h2, h3⟩ := hn1
        cases Option.some.inj (h1.symm.trans hcl)
        cases Option.some.inj (h2.symm.trans hc6)
        exact Or.inr ⟨hz0, _, hcl6, h3⟩)
  obtain ⟨g₀, hfr⟩ := X'.frames_eq
  have hcell9 : ((T.setVm vm').setFrames (.throwing q :: below)).heap[q]? = some ce := by
    show T.heap[q]? = some ce
    rw [hT]; exact hcell
  have hend : Ended ((T.setVm vm').setFrames (.throwing q :: below)) below (.threw q) := State.frames_setFrames _ (State.cur_lt_of_frames hfr)
  refine ⟨(T.setVm vm').setFrames (.throwing q :: below), ?_, .threw q, X'.here.running, hend, Or.inr ⟨q, rfl, E, ce, locs, hx _ hT (X'.ends _).1.alike, hcell9, hv, hcl, (X'.ends _).1, (X'.ends _).2.mono hc hs, hf⟩⟩
  rw [X.pushThrowing_eq]
  exact st
/-- a thing of a world lies in the heap -/
theorem vx_lt {D : va_G} {cl : List vw_C} {ws : va_W} {H1 : Heap} (h : va_P D cl ws H1) {k : Nat} {q : Nat × va_E} (hk : ws[k]? = some q) : q.1 < H1.size := (h k q hk).lt
end VXS
/-! ===== END ===== -/
/-! ===== BEGIN methods with a table of their own: called by a name, returning or throwing ===== -/
section VXH
/-! vx_backW, vx_callVX, vx_callSX, vx_callVW, vx_runVW, vx_runVX, vx_runSX, vx_ofWH follow the same proofs as their sisters above (Free/Laws.lean, Shelf42/LK1.lean); vx_outP calls Shelf42/NT130.lean (outThrough). -/
section
variable {l : Launch} {R : Room} {p : Program} {e : Env} {below : List Frame} {s : State} {sargs : Array Value} {y : MethodName} {len W9 : Nat}
theorem vx_backW {ws : List Cond} {rm : Room} {Pc : Array Value → State → Prop} {Qc : Array Value → State → Outcome → State → Prop} {XC : String → State → State → Prop} {mc ms : Nat} {free : Addr → Prop} {bytes : ByteArray} {maxL : Nat} {ret : Option FieldType} {hh : List (Nat × Nat × Nat × Nat)}
    (hM : vx_Met l y ws rm Pc Qc XC mc ms free) (hblind : FrameBlind Pc) (hrc : rm.cells = mc) (hrs : rm.slots = ms)
    (hframes : rm.frames + 1 ≤ R.frames) (hlocals : W9 + (maxL + 11) + rm.locals ≤ R.locals)
    (hws : ∀ w ∈ ws, ∀ a' U, s.WarmedH U.vm → w.before a' U = true) (hcode : Cond.codeWith y bytes maxL ret hh ∈ ws) (hinit : ∀ a' U, s.WarmedH U.vm → (Cond.initialized y.cls).before a' U = true) :
    vx_Back l R p e below s sargs y len W9 (PreOf R mc ms Pc) (PostOf Qc mc ms free) (vx_Post XC mc ms free) := by
  intro m meth c A g ig mk a X hg hsize hdg hW hn hp
  have h1 : (headSpec ws rm).pre.before a A.U = true := atoms_intro fun w hw => hws w hw _ _ X.warmed
  have h2 : (Cond.codeWith y bytes maxL ret hh).before a A.U = true := hws _ hcode _ _ X.warmed
  have h3 : (Cond.initialized y.cls).before a A.U = true := hinit _ _ X.warmed
  have h4 : A.cells + (headSpec ws rm).room.cells ≤ R.cells := by rw [show (headSpec ws rm).room.cells = mc from hrc]; exact hp.1
  have h5 : A.slots + (headSpec ws rm).room.slots ≤ R.slots := by rw [show (headSpec ws rm).room.slots = ms from hrs]; exact hp.2.1
  have hPc : Pc a (A.U.calling g mk a) := hblind _ _ _ _ hp.2.2
  obtain ⟨U, Ls, c0, s0⟩ := A
  dsimp only [Pt.U, Pt.locs, Pt.cells, Pt.slots] at h1 h2 h3 h4 h5 X hn hPc ⊢
  obtain ⟨m9, methY, cY, hn9, hmY, hcY, -, hlY, -⟩ := Cond.codeWith_spec h2
  cases Option.some.inj (hn9.symm.trans hn)
  obtain ⟨kY, hkY, -⟩ := className_of_methodNamed hn
  have hinitY : kY.init = .initialized := Cond.initialized_spec (findClass_of_methodNamed hn) hkY h3
  have h : At U g.method c below := by rw [hg]; exact X.here
  have hlocals9 : W9 + (maxL + 11) + (headSpec ws rm).room.locals ≤ R.locals := hlocals
  have happ : (headSpec ws rm).appliesLoose y e.platform (U.calling g mk a) = true :=
    Spec.appliesLoose_calling (g := g) h hdg hn hkY hinitY
      (X.room_calling (g := g) (R' := (headSpec ws rm).room) hsize hmY hcY hframes (by rw [hlY]; omega) h4 h5) h1
  obtain ⟨mid, hmid⟩ := h.above
  have hfr : (U.setTop g).frames = (.java g :: mid) ++ below := by rw [State.frames_setTop' g h.top, hmid]; rfl
  obtain ⟨o, s₂, hsteps, -, hend, hq⟩ := Steps.callFree hM p X.admits X.cas X.clock (acts := []) hfr happ hPc trivial
  have hq' : vx_Q Qc XC mc ms free a (U.calling g mk a) o s₂ := hq
  rw [State.frames_setTop' g h.top] at hend
  obtain ⟨g₀, hg0⟩ := Option.isSome_iff_exists.mp h.top
  obtain ⟨r, hr⟩ := State.topJava?_eq_some.mp hg0
  have hr' : (({ U with heap := s₂.heap, slotsUsed := s₂.slotsUsed } : State).setVm s₂.vm).frames = .java g₀ :: r := hr
  rcases hq' with ⟨hqc, L, hfe, hL⟩ | ⟨q, rfl, E, ce, L, hx, hce, hcv, hcl, hW₂, hsm, hL⟩
  · obtain ⟨⟨v, rfl⟩, hW₂, e2, q2, q3, q4, q5, q6⟩ := id hfe
    have e3 : s₂ = ({ (U.calling g mk a).setFrames s₂.frames with heap := s₂.heap, slotsUsed := s₂.slotsUsed } : State).setVm s₂.vm := by
      have : s₂ = ({ s₂ with vm := (U.calling g mk a).vm } : State).setVm s₂.vm := rfl
      rw [e2] at this
      exact this
    obtain ⟨c₂, i₂, len₂, hc₂, hd₂, hf₂⟩ := hend
    have hW' : U.WarmedH s₂.vm := hW₂
    have hcc : c₂ = c := by
      have h1 : s₂.code? g.method = U.code? g.method := by
        rw [State.code?_eq, State.code?_eq, hW'.alike.method?]
      exact Option.some.inj (hc₂.symm.trans (h1.trans h.code))
    subst hcc
    have hlen : len₂ = len := by rw [hdg] at hd₂; cases hd₂; rfl
    subst hlen
    have hs₂ : s₂ = (({ U with heap := s₂.heap, slotsUsed := s₂.slotsUsed } : State).setVm s₂.vm).setTop { g with pc := g.pc + len₂, stack := v.toList ++ g.stack } := by
      refine e3.trans ?_
      rw [hf₂, State.calling_eq h.top, State.setFrames_setFrames, State.setTop_of_frames _ hr', hr]
      rfl
    have hsame : U.sameButNew ({ U with heap := s₂.heap, slotsUsed := s₂.slotsUsed } : State) L mc ms := by
      refine ⟨?_, q2, q3, q4, q5, q6⟩
      obtain ⟨t, ht, -⟩ := State.frames_cons hr
      show ({ U with heap := s₂.heap, slotsUsed := s₂.slotsUsed } : State) = { U.setFrames U.frames with heap := s₂.heap, slotsUsed := s₂.slotsUsed }
      rw [State.setFrames_self ht]
    subst hg
    refine Or.inl ⟨v, ⟨(({ U with heap := s₂.heap, slotsUsed := s₂.slotsUsed } : State).setVm s₂.vm), Ls ++ L, c0 + mc, s0 + ms⟩,
      ⟨X.admits, X.cas, X.clock, X.frames, X.room, X.hears, X.method, X.code, (X.here.setHeapUsed s₂.heap s₂.slotsUsed).setVm hW'.alike, X.tail, State.WarmedH.trans X.warmed hW', X.limits, X.bytes, X.same.trans (hsame.setVm s.vm)⟩,
      ⟨g, mk, s₂, L, rfl, rfl, hqc, rfl, hL, rfl, rfl⟩, ?_⟩
    show Steps p.tables e below _ ((({ U with heap := s₂.heap, slotsUsed := s₂.slotsUsed } : State).setVm s₂.vm).setTop { g with pc := g.pc + len₂, stack := v.toList ++ g.stack })
    rw [← hs₂]
    exact hsteps
  · obtain ⟨e2, q2, q3, q4, q5, q6⟩ := id hsm
    have e3 : s₂ = ({ (U.calling g mk a).setFrames s₂.frames with heap := s₂.heap, slotsUsed := s₂.slotsUsed } : State).setVm s₂.vm := by
      have : s₂ = ({ s₂ with vm := (U.calling g mk a).vm } : State).setVm s₂.vm := rfl
      rw [e2] at this
      exact this
    have hf₂ : s₂.frames = .throwing q :: .java g :: U.frames.tail := hend
    have hW' : U.WarmedH s₂.vm := hW₂
    have hs₂ : s₂ = ((({ U with heap := s₂.heap, slotsUsed := s₂.slotsUsed } : State).setVm s₂.vm).setTop g).pushFrame (.throwing q) := by
      refine e3.trans ?_
      rw [hf₂, State.calling_eq h.top, State.setFrames_setFrames, State.pushFrame, State.frames_setTop _ hr', State.setTop_of_frames _ hr', State.setFrames_setFrames, hr]
      rfl
    have hsame : U.sameButNew ({ U with heap := s₂.heap, slotsUsed := s₂.slotsUsed } : State) L mc ms := by
      refine ⟨?_, q2, q3, q4, q5, q6⟩
      obtain ⟨t, ht, -⟩ := State.frames_cons hr
      show ({ U with heap := s₂.heap, slotsUsed := s₂.slotsUsed } : State) = { U.setFrames U.frames with heap := s₂.heap, slotsUsed := s₂.slotsUsed }
      rw [State.setFrames_self ht]
    subst hg
    refine Or.inr ⟨q, ⟨(({ U with heap := s₂.heap, slotsUsed := s₂.slotsUsed } : State).setVm s₂.vm), Ls ++ L, c0 + mc, s0 + ms⟩,
      ⟨X.admits, X.cas, X.clock, X.frames, X.room, X.hears, X.method, X.code, (X.here.setHeapUsed s₂.heap s₂.slotsUsed).setVm hW'.alike, X.tail, State.WarmedH.trans X.warmed hW', X.limits, X.bytes, X.same.trans (hsame.setVm s.vm)⟩,
      ⟨g, mk, s₂, L, E, ce, rfl, rfl, hx, hce, hcv, hcl, rfl, hL, rfl, rfl⟩, ?_⟩
    show Steps p.tables e below _ (((({ U with heap := s₂.heap, slotsUsed := s₂.slotsUsed } : State).setVm s₂.vm).setTop g).pushFrame (.throwing q))
    rw [← hs₂]
    exact hsteps
end
variable {p : Program} {l : Launch} {e : Env} {R : Room} {s : State} {m : MethodId} {args : Array Value} {below : List Frame} {meth : Method} {c : Code} {T : State} {H : Heap} {locs : List Loc} {cells slots : Nat}
theorem vx_callVX (X : Stand p l e R s m args below meth c T locs cells slots) (hexec : p.tables.exec = Jvm.exec) {own C : String} {index : Nat} {y : MethodName} {bytes : ByteArray} {maxL : Nat} {ret : Option FieldType} {hh : List (Nat × Nat × Nat × Nat)}
    (hown : s.vm.findClass own = some m.cls) (hlink : (Cond.methodLink own index y).before args s = true) (hinst : (Cond.instanceMethod y).before args s = true) (hsel : (Cond.selects C y y).before args s = true)
    (hcode : (Cond.codeWith y bytes maxL ret hh).before args s = true) (hy : y.cls ≠ "java/lang/invoke/MethodHandle" ∧ y.cls ≠ "java/lang/invoke/VarHandle")
    {W9 : Nat} {Pre : Pt → Array Value → Prop} {Post : Pt → Array Value → Option Value → Pt → Prop} {PostX : Pt → Array Value → Addr → Pt → Prop} (hK : vx_Back l R p e below s args y 3 W9 Pre Post PostX)
    {b : Addr} {cellB : Cell} (hcell : T.heap[b]? = some cellB) (hobj : cellB.vm.isStatics = false) (hcls : s.vm.findClass C = some cellB.cls)
    {g : JFrame} (hg : g.method = m) (hsize : g.locals.size = c.maxLocals) {argsL rest : List Value} (hlen : ∀ sig, parseMethodDescriptor y.desc = some sig → argsL.length = sig.parameters.length)
    (hstack : g.stack = argsL.reverse ++ .ref b :: rest) (hW : 2 * g.monitorRoom + (rest.map fun v => v.category).sum ≤ W9) (hdg : decode c.code g.pc = .ok (.invokevirtual index, 3))
    (hpre : ∀ vm₁, s.WarmedH vm₁ → Pre ⟨T.setVm vm₁, locs, cells, slots⟩ (Value.ref b :: argsL).toArray) :
    (∃ (v : Option Value) (vm₁ : Vm) (B : Pt), s.WarmedH vm₁ ∧ Stand p l e R s m args below meth c B.U B.locs B.cells B.slots ∧ Post ⟨T.setVm vm₁, locs, cells, slots⟩ (Value.ref b :: argsL).toArray v B ∧
      ∀ target, Steps p.tables e below (B.U.setTop { g with pc := g.pc + 3, stack := v.toList ++ rest }) target → Steps p.tables e below (T.setTop g) target) ∨
    (∃ (q : Addr) (vm₁ : Vm) (B : Pt), s.WarmedH vm₁ ∧ Stand p l e R s m args below meth c B.U B.locs B.cells B.slots ∧ PostX ⟨T.setVm vm₁, locs, cells, slots⟩ (Value.ref b :: argsL).toArray q B ∧
      Steps p.tables e below (T.setTop g) ((B.U.setTop { g with stack := rest }).pushFrame (.throwing q))) := by
  obtain ⟨mk, methM, hnamed, hmethM, hstM, habM⟩ := Cond.instanceMethod_spec hinst
  obtain ⟨m8, methM', cM, hn8, hmethM', -, -, -, -, -, -, hsigM⟩ := Cond.codeWith_spec hcode
  cases Option.some.inj (hn8.symm.trans hnamed)
  cases hmethM.symm.trans hmethM'
  obtain ⟨c2, r2, m2, q1, q2, q3, q4, kP, hkP, hkPi⟩ := Cond.selects_spec hsel
  cases hcls.symm.trans q1
  cases (State.methodFound?_of_named hnamed hy).symm.trans q2
  cases hnamed.symm.trans q3
  have hselP : selectMethod e.platform s.vm cellB.cls mk = .method mk := by rw [Launch.admits_selectMethod X.admits]; exact q4
  obtain ⟨vm₁, X₁, hstep₁⟩ := X.invokevirtual hexec hown hlink hnamed hmethM hstM hkP hkPi hy (a := b) (cell := cellB) hcell
    (fun z h => by rw [h] at hobj; cases hobj) hselP hmethM habM hkP hkPi (g := g) hg (argsL := argsL) (rest := rest) (hlen _ hsigM) hstack hdg
  rcases hK m meth c ⟨T.setVm vm₁, locs, cells, slots⟩ { g with stack := rest } (.invokevirtual index) mk (Value.ref b :: argsL).toArray X₁ hg hsize hdg hW (X₁.named hnamed) (hpre vm₁ X₁.warmed) with ⟨v, B, X', hpost, hsteps⟩ | ⟨q, B, X', hpost, hsteps⟩
  · exact Or.inl ⟨v, vm₁, B, X₁.warmed, X', hpost, fun target h => hstep₁ _ fun acts => by rw [doInvoke_state]; exact hsteps.trans h⟩
  · exact Or.inr ⟨q, vm₁, B, X₁.warmed, X', hpost, hstep₁ _ fun acts => by rw [doInvoke_state]; exact hsteps⟩
theorem vx_callSX (X : Stand p l e R s m args below meth c T locs cells slots) (hexec : p.tables.exec = Jvm.exec) {own : String} {index : Nat} {y : MethodName} {bytes : ByteArray} {maxL : Nat} {ret : Option FieldType} {hh : List (Nat × Nat × Nat × Nat)}
    (hown : s.vm.findClass own = some m.cls) (hlink : (Cond.methodLink own index y).before args s = true) (hstat : (Cond.static y).before args s = true) (hinit : (Cond.initialized y.cls).before args s = true)
    (hcode : (Cond.codeWith y bytes maxL ret hh).before args s = true) (hy : y.cls ≠ "java/lang/invoke/MethodHandle" ∧ y.cls ≠ "java/lang/invoke/VarHandle")
    {W9 : Nat} {Pre : Pt → Array Value → Prop} {Post : Pt → Array Value → Option Value → Pt → Prop} {PostX : Pt → Array Value → Addr → Pt → Prop} (hK : vx_Back l R p e below s args y 3 W9 Pre Post PostX)
    {g : JFrame} (hg : g.method = m) (hsize : g.locals.size = c.maxLocals) {argsL rest : List Value} (hlen : ∀ sig, parseMethodDescriptor y.desc = some sig → argsL.length = sig.parameters.length)
    (hstack : g.stack = argsL.reverse ++ rest) (hW : 2 * g.monitorRoom + (rest.map fun v => v.category).sum ≤ W9) (hdg : decode c.code g.pc = .ok (.invokestatic index, 3))
    (hpre : ∀ vm₁, s.WarmedH vm₁ → Pre ⟨T.setVm vm₁, locs, cells, slots⟩ argsL.toArray) :
    (∃ (v : Option Value) (vm₁ : Vm) (B : Pt), s.WarmedH vm₁ ∧ Stand p l e R s m args below meth c B.U B.locs B.cells B.slots ∧ Post ⟨T.setVm vm₁, locs, cells, slots⟩ argsL.toArray v B ∧
      ∀ target, Steps p.tables e below (B.U.setTop { g with pc := g.pc + 3, stack := v.toList ++ rest }) target → Steps p.tables e below (T.setTop g) target) ∨
    (∃ (q : Addr) (vm₁ : Vm) (B : Pt), s.WarmedH vm₁ ∧ Stand p l e R s m args below meth c B.U B.locs B.cells B.slots ∧ PostX ⟨T.setVm vm₁, locs, cells, slots⟩ argsL.toArray q B ∧
      Steps p.tables e below (T.setTop g) ((B.U.setTop { g with stack := rest }).pushFrame (.throwing q))) := by
  obtain ⟨mk, methM, cM, hnamed, hmethM, -, -, -, -, -, -, hsigM⟩ := Cond.codeWith_spec hcode
  have hstatic : methM.isStatic = true := Cond.static_spec hnamed hmethM hstat
  obtain ⟨kP, hkP, -⟩ := className_of_methodNamed hnamed
  have hinitP : kP.init = .initialized := Cond.initialized_spec (findClass_of_methodNamed hnamed) hkP hinit
  obtain ⟨vm₁, X₁, hstep₁⟩ := X.invokestatic hexec hown hlink hnamed hmethM hstatic hkP hinitP hy (g := g) hg (argsL := argsL) (rest := rest) (hlen _ hsigM) hstack hdg
  rcases hK m meth c ⟨T.setVm vm₁, locs, cells, slots⟩ { g with stack := rest } (.invokestatic index) mk argsL.toArray X₁ hg hsize hdg hW (X₁.named hnamed) (hpre vm₁ X₁.warmed) with ⟨v, B, X', hpost, hsteps⟩ | ⟨q, B, X', hpost, hsteps⟩
  · exact Or.inl ⟨v, vm₁, B, X₁.warmed, X', hpost, fun target h => hstep₁ _ fun acts => by rw [doInvoke_state]; exact hsteps.trans h⟩
  · exact Or.inr ⟨q, vm₁, B, X₁.warmed, X', hpost, hstep₁ _ fun acts => by rw [doInvoke_state]; exact hsteps⟩
theorem vx_callVW (X : Stand p l e R s m args below meth c T locs cells slots) (hexec : p.tables.exec = Jvm.exec) {own C : String} {index : Nat} {y : MethodName} {bytes : ByteArray} {maxL : Nat} {ret : Option FieldType} {hh : List (Nat × Nat × Nat × Nat)}
    (hown : s.vm.findClass own = some m.cls) (hlink : (Cond.methodLink own index y).before args s = true) (hinst : (Cond.instanceMethod y).before args s = true) (hsel : (Cond.selects C y y).before args s = true)
    (hcode : (Cond.codeWith y bytes maxL ret hh).before args s = true) (hy : y.cls ≠ "java/lang/invoke/MethodHandle" ∧ y.cls ≠ "java/lang/invoke/VarHandle")
    {W9 : Nat} {Pre : Pt → Array Value → Prop} {Post : Pt → Array Value → Option Value → Pt → Prop} (hK : Back l R p e below s args y 3 W9 Pre Post)
    {b : Addr} {cellB : Cell} (hcell : T.heap[b]? = some cellB) (hobj : cellB.vm.isStatics = false) (hcls : s.vm.findClass C = some cellB.cls)
    {g : JFrame} (hg : g.method = m) (hsize : g.locals.size = c.maxLocals) {argsL rest : List Value} (hlen : ∀ sig, parseMethodDescriptor y.desc = some sig → argsL.length = sig.parameters.length)
    (hstack : g.stack = argsL.reverse ++ .ref b :: rest) (hW : 2 * g.monitorRoom + (rest.map fun v => v.category).sum ≤ W9) (hdg : decode c.code g.pc = .ok (.invokevirtual index, 3))
    (hpre : ∀ vm₁, s.WarmedH vm₁ → Pre ⟨T.setVm vm₁, locs, cells, slots⟩ (Value.ref b :: argsL).toArray) :
    ∃ (v : Option Value) (vm₁ : Vm) (B : Pt), s.WarmedH vm₁ ∧ Stand p l e R s m args below meth c B.U B.locs B.cells B.slots ∧ Post ⟨T.setVm vm₁, locs, cells, slots⟩ (Value.ref b :: argsL).toArray v B ∧
      ∀ target, Steps p.tables e below (B.U.setTop { g with pc := g.pc + 3, stack := v.toList ++ rest }) target → Steps p.tables e below (T.setTop g) target := by
  obtain ⟨mk, methM, hnamed, hmethM, hstM, habM⟩ := Cond.instanceMethod_spec hinst
  obtain ⟨m8, methM', cM, hn8, hmethM', -, -, -, -, -, -, hsigM⟩ := Cond.codeWith_spec hcode
  cases Option.some.inj (hn8.symm.trans hnamed)
  cases hmethM.symm.trans hmethM'
  obtain ⟨c2, r2, m2, q1, q2, q3, q4, kP, hkP, hkPi⟩ := Cond.selects_spec hsel
  cases hcls.symm.trans q1
  cases (State.methodFound?_of_named hnamed hy).symm.trans q2
  cases hnamed.symm.trans q3
  have hselP : selectMethod e.platform s.vm cellB.cls mk = .method mk := by rw [Launch.admits_selectMethod X.admits]; exact q4
  obtain ⟨vm₁, X₁, hstep₁⟩ := X.invokevirtual hexec hown hlink hnamed hmethM hstM hkP hkPi hy (a := b) (cell := cellB) hcell
    (fun z h => by rw [h] at hobj; cases hobj) hselP hmethM habM hkP hkPi (g := g) hg (argsL := argsL) (rest := rest) (hlen _ hsigM) hstack hdg
  obtain ⟨v, B, X', hpost, hsteps⟩ := hK m meth c ⟨T.setVm vm₁, locs, cells, slots⟩ { g with stack := rest } (.invokevirtual index) mk (Value.ref b :: argsL).toArray X₁ hg hsize hdg hW (X₁.named hnamed) (hpre vm₁ X₁.warmed)
  exact ⟨v, vm₁, B, X₁.warmed, X', hpost, fun target h => hstep₁ _ fun acts => by rw [doInvoke_state]; exact hsteps.trans h⟩
abbrev vx_CVW (R : Room) (s : State) (args : Array Value) (own C : String) (index : Nat) (y : MethodName) (bytes : ByteArray) (maxL : Nat) (ret : Option FieldType) (hh : List (Nat × Nat × Nat × Nat)) (ws : List Cond) (rm : Room) (mc ms n : Nat) : Prop :=
  (rm.cells = mc ∧ rm.slots = ms ∧ rm.frames + 1 ≤ R.frames ∧ 8 + (maxL + 11) + rm.locals ≤ R.locals ∧ (∀ w ∈ ws, ∀ (a' : Array Value) (U : State), s.WarmedH U.vm → w.before a' U = true) ∧ Cond.codeWith y bytes maxL ret hh ∈ ws) ∧
  (Cond.codeWith y bytes maxL ret hh).before args s = true ∧ (Cond.initialized y.cls).before args s = true ∧ (y.cls ≠ "java/lang/invoke/MethodHandle" ∧ y.cls ≠ "java/lang/invoke/VarHandle") ∧
  (∀ sig, parseMethodDescriptor y.desc = some sig → n = sig.parameters.length) ∧ (Cond.methodLink own index y).before args s = true ∧ (Cond.instanceMethod y).before args s = true ∧ (Cond.selects C y y).before args s = true
theorem vx_cwVW {own C : String} {index maxL mc ms : Nat} {y : MethodName} {bytes : ByteArray} {ret : Option FieldType} {hh : List (Nat × Nat × Nat × Nat)} {Ts ws ws' : List Cond} {rm : Room} (n : Nat) (ht : ∀ w ∈ Ts, w.before args s = true) (hT : GoodIn Ts (wsV own index C y ws)) (hw : ws = Cond.codeWith y bytes maxL ret hh :: ws') (hrc : rm.cells = mc) (hrs : rm.slots = ms)
    (hd : y.cls = C ∧ y.cls ≠ "java/lang/invoke/MethodHandle" ∧ y.cls ≠ "java/lang/invoke/VarHandle" ∧ (parseMethodDescriptor y.desc).map (fun d => d.parameters.length) = some n) (hR : rm.frames + 1 ≤ R.frames ∧ 8 + (maxL + 11) + rm.locals ≤ R.locals) :
    vx_CVW R s args own C index y bytes maxL ret hh ws rm mc ms n := by
  obtain ⟨hC, hd⟩ := hd
  subst hC
  have ok : ∀ w ∈ wsV own index y.cls y ws, w.before args s = true := fun w h => ht w (hT w h).1
  have hG : GoodIn Ts ws := fun w h => hT w (by unfold wsV; exact List.mem_append_right _ h)
  have hc : Cond.codeWith y bytes maxL ret hh ∈ ws := by rw [hw]; exact List.mem_cons_self
  refine ⟨⟨hrc, hrs, hR.1, hR.2, pay_in ht hG, hc⟩, ht _ (hG _ hc).1, ok _ (by simp [wsV]), ⟨hd.1, hd.2.1⟩, fun sig h => ?_, ok _ (by simp [wsV]), ok _ (by simp [wsV]), ok _ (by simp [wsV])⟩
  have h2 := hd.2.2
  rw [h] at h2
  exact (Option.some.inj h2).symm
theorem vx_runVW {y : MethodName} {bytes cc : ByteArray} {maxL nL mc ms n index : Nat} {ret : Option FieldType} {hh : List (Nat × Nat × Nat × Nat)} {ws : List Cond} {rm : Room} {Pc : Array Value → State → Prop} {Qc : Array Value → State → Outcome → State → Prop} {free : Addr → Prop} {Ts : List Cond} {own C : String} {b : Addr} {As rest : List Value} {g : JFrame}
    (S : CallFix p m c cc nL s args Ts own) (hM : Met l y ws rm Pc Qc mc ms free) (cw : vx_CVW R s args own C index y bytes maxL ret hh ws rm mc ms n) (hp : PreV s H C b Pc As)
    (hg : g.method = m) (hn : As.length = n) (hsize : g.locals.size = nL) (hstack : g.stack = As.reverse ++ .ref b :: rest) (hW : 2 * g.monitorRoom + (rest.map fun v => v.category).sum ≤ 8) (hdg : decode cc g.pc = .ok (.invokevirtual index, 3)) (hf : cells + mc ≤ R.cells ∧ slots + ms ≤ R.slots) :
    va_Run p l e R s m args below meth c H locs cells slots mc ms g rest (Qc (Value.ref b :: As).toArray) free := by
  obtain ⟨⟨hrc, hrs, hfr, hlo, hws, hcw⟩, hcode, hini, hy, hlen, hl, hin, hse⟩ := cw
  have hK : Back l R p e below s args y 3 8 (PreOf R mc ms Pc) (PostOf Qc mc ms free) := va_backW (hh := hh) (bytes := bytes) (maxL := maxL) (ret := ret) hM hp.1 hrc hrs hfr hlo hws hcw (fun a' U hW => word_at hW (Or.inl (by first | rfl | simp [Cond.onTables, Cond.keeps, Cond.steady])) hini)
  obtain ⟨hx, hb, hml, ho, -⟩ := S
  obtain ⟨-, ⟨cellB, hcB, hoB, hclB⟩, hPc⟩ := hp
  intro T hT X
  obtain ⟨v, vm₁, ⟨U', l2, c2, s2⟩, hW₁, X', ⟨g', mk, t, L, e1, e2, hq, h1, hL, h2, h3⟩, st⟩ := vx_callVW X hx (C := C) (hh := hh) (bytes := bytes) (maxL := maxL) (ret := ret) ho hl hin hse hcode hy hK (by rw [hT]; exact hcB) hoB hclB hg (hsize.trans hml.symm) (argsL := As) (rest := rest) (fun sig h => hn.trans (hlen sig h)) hstack hW (by rw [hb]; exact hdg)
    (fun vm₁ hW₁ => ⟨hf.1, hf.2, hPc (T.setVm vm₁) hT hW₁⟩)
  dsimp only [Pt.U, Pt.locs, Pt.cells, Pt.slots] at X' e1 e2 h1 h2 h3 st
  subst h1; subst h2; subst h3
  exact ⟨v, (T.setVm vm₁).calling g' mk (Value.ref b :: As).toArray, t, U', L, hT, X', hL, e1, e2, hq, st⟩
section
variable {y : MethodName} {bytes cc : ByteArray} {maxL nL mc ms n index : Nat} {ret : Option FieldType} {ws : List Cond} {rm : Room} {Pc : Array Value → State → Prop} {Qc : Array Value → State → Outcome → State → Prop} {XC : String → State → State → Prop} {free : Addr → Prop} {Ts : List Cond} {own C : String} {b : Addr} {As rest : List Value} {g : JFrame}
theorem vx_runVX {hh : List (Nat × Nat × Nat × Nat)} (S : CallFix p m c cc nL s args Ts own) (hM : vx_Met l y ws rm Pc Qc XC mc ms free) (cw : vx_CVW R s args own C index y bytes maxL ret hh ws rm mc ms n) (hp : PreV s H C b Pc As)
    (hg : g.method = m) (hn : As.length = n) (hsize : g.locals.size = nL) (hstack : g.stack = As.reverse ++ .ref b :: rest) (hW : 2 * g.monitorRoom + (rest.map fun v => v.category).sum ≤ 8) (hdg : decode cc g.pc = .ok (.invokevirtual index, 3)) (hf : cells + mc ≤ R.cells ∧ slots + ms ≤ R.slots) :
    vx_Run p l e R s m args below meth c H locs cells slots mc ms g rest (Qc (Value.ref b :: As).toArray) XC free := by
  obtain ⟨⟨hrc, hrs, hfr, hlo, hws, hcw⟩, hcode, hini, hy, hlen, hl, hin, hse⟩ := cw
  have hK : vx_Back l R p e below s args y 3 8 (PreOf R mc ms Pc) (PostOf Qc mc ms free) (vx_Post XC mc ms free) := vx_backW (hh := hh) (bytes := bytes) (maxL := maxL) (ret := ret) hM hp.1 hrc hrs hfr hlo hws hcw (fun a' U hW => word_at hW (Or.inl (by first | rfl | simp [Cond.onTables, Cond.keeps, Cond.steady])) hini)
  obtain ⟨hx, hb, hml, ho, -⟩ := S
  obtain ⟨-, ⟨cellB, hcB, hoB, hclB⟩, hPc⟩ := hp
  intro T hT X
  rcases vx_callVX X hx (C := C) (hh := hh) (bytes := bytes) (maxL := maxL) (ret := ret) ho hl hin hse hcode hy hK (by rw [hT]; exact hcB) hoB hclB hg (hsize.trans hml.symm) (argsL := As) (rest := rest) (fun sig h => hn.trans (hlen sig h)) hstack hW (by rw [hb]; exact hdg)
    (fun vm₁ hW₁ => ⟨hf.1, hf.2, hPc (T.setVm vm₁) hT hW₁⟩) with ⟨v, vm₁, ⟨U', l2, c2, s2⟩, hW₁, X', ⟨g', mk, t, L, e1, e2, hq, h1, hL, h2, h3⟩, st⟩ | ⟨q, vm₁, ⟨U', l2, c2, s2⟩, hW₁, X', ⟨g', mk, t, L, E, ce, e1, e2, hq, hce, hcv, hcl, h1, hL, h2, h3⟩, st⟩
  · dsimp only [Pt.U, Pt.locs, Pt.cells, Pt.slots] at X' e1 e2 h1 h2 h3 st
    subst h1; subst h2; subst h3
    exact Or.inl ⟨v, (T.setVm vm₁).calling g' mk (Value.ref b :: As).toArray, t, U', L, hT, X', hL, e1, e2, hq, st⟩
  · dsimp only [Pt.U, Pt.locs, Pt.cells, Pt.slots] at X' e1 e2 h1 h2 h3 st hcl
    subst h1; subst h2; subst h3
    exact Or.inr ⟨q, (T.setVm vm₁).calling g' mk (Value.ref b :: As).toArray, t, U', L, E, ce, hT, X', hL, e1, e2, hq, hce, hcv, vx_cls hW₁ hcl, st⟩
theorem vx_runSX {hh : List (Nat × Nat × Nat × Nat)} (S : CallFix p m c cc nL s args Ts own) (hM : vx_Met l y ws rm Pc Qc XC mc ms free) (cw : vx_CSW R s args own index y bytes maxL ret hh ws rm mc ms n) (hp : PreS s H Pc As)
    (hg : g.method = m) (hn : As.length = n) (hsize : g.locals.size = nL) (hstack : g.stack = As.reverse ++ rest) (hW : 2 * g.monitorRoom + (rest.map fun v => v.category).sum ≤ 8) (hdg : decode cc g.pc = .ok (.invokestatic index, 3)) (hf : cells + mc ≤ R.cells ∧ slots + ms ≤ R.slots) :
    vx_Run p l e R s m args below meth c H locs cells slots mc ms g rest (Qc As.toArray) XC free := by
  obtain ⟨⟨hrc, hrs, hfr, hlo, hws, hcw⟩, hcode, hini, hy, hlen, hl, hstt⟩ := cw
  have hK : vx_Back l R p e below s args y 3 8 (PreOf R mc ms Pc) (PostOf Qc mc ms free) (vx_Post XC mc ms free) := vx_backW (hh := hh) (bytes := bytes) (maxL := maxL) (ret := ret) hM hp.1 hrc hrs hfr hlo hws hcw (fun a' U hW => word_at hW (Or.inl (by first | rfl | simp [Cond.onTables, Cond.keeps, Cond.steady])) hini)
  obtain ⟨hx, hb, hml, ho, -⟩ := S
  intro T hT X
  rcases vx_callSX X hx (hh := hh) (bytes := bytes) (maxL := maxL) (ret := ret) ho hl hstt hini hcode hy hK hg (hsize.trans hml.symm) (argsL := As) (rest := rest) (fun sig h => hn.trans (hlen sig h)) hstack hW (by rw [hb]; exact hdg)
    (fun vm₁ hW₁ => ⟨hf.1, hf.2, hp.2 (T.setVm vm₁) hT hW₁⟩) with ⟨v, vm₁, ⟨U', l2, c2, s2⟩, hW₁, X', ⟨g', mk, t, L, e1, e2, hq, h1, hL, h2, h3⟩, st⟩ | ⟨q, vm₁, ⟨U', l2, c2, s2⟩, hW₁, X', ⟨g', mk, t, L, E, ce, e1, e2, hq, hce, hcv, hcl, h1, hL, h2, h3⟩, st⟩
  · dsimp only [Pt.U, Pt.locs, Pt.cells, Pt.slots] at X' e1 e2 h1 h2 h3 st
    subst h1; subst h2; subst h3
    exact Or.inl ⟨v, (T.setVm vm₁).calling g' mk As.toArray, t, U', L, hT, X', hL, e1, e2, hq, st⟩
  · dsimp only [Pt.U, Pt.locs, Pt.cells, Pt.slots] at X' e1 e2 h1 h2 h3 st hcl
    subst h1; subst h2; subst h3
    exact Or.inr ⟨q, (T.setVm vm₁).calling g' mk As.toArray, t, U', L, E, ce, hT, X', hL, e1, e2, hq, hce, hcv, vx_cls hW₁ hcl, st⟩
end
end VXH
theorem vx_ofWH {l : Launch} {y : MethodName} {ws ws' : List Cond} {rm : Room} {Pc : Array Value → State → Prop} {Qc : Array Value → State → Outcome → State → Prop} {XC : String → State → State → Prop} {mc ms : Nat} {free : Addr → Prop} {cc : ByteArray} {maxL : Nat} {ret : Option FieldType} {hh : List (Nat × Nat × Nat × Nat)}
    (hy : plainName y.cls = true) (hw : ws = Cond.codeWith y cc maxL ret hh :: ws')
    (body : ∀ p e s m args below meth c s₁, BodyLoose p l y (headSpec ws rm) cc maxL ret e s m args below meth c s₁ → c.maxLocals = maxL → Pc args s →
      W p l e (headSpec ws rm).room s m args below meth c s.heap [] 0 0 (vx_MQ below Qc XC args s mc ms free) (entryFrame m args maxL)) : vx_Met l y ws rm Pc Qc XC mc ms free := by
  refine MetFree.of_bodyS (code := cc) (maxLocals := maxL) (ret := ret) hy ?_ ?_
  · intro args s m h hn
    obtain ⟨m9, meth, c, hn9, h1, h2, h3, h4, -, h5, h6, -⟩ := Cond.codeWith_spec (atoms_spec (ws := ws) h _ (by rw [hw]; exact List.mem_cons_self))
    cases hn.symm.trans hn9
    exact ⟨meth, c, h1, h2, h3, h4, h5, h6⟩
  · intro p e s m args below meth c s₁ B hml hP _
    have hh0 : s₁.heap = s.heap := by rw [B.state]; rfl
    obtain ⟨t, a1, o, b1, b2, b3⟩ := body p e s m args below meth c s₁ B hml hP s₁ hh0 (Stand.of_body B)
    exact ⟨t, o, a1, b1, b2, b3⟩
/-! ===== END ===== -/

def RX0 : String := "BaulkHall$BoardRoll"
def TX0 : u_T := fun k => match k with
  | 0 => ("BaulkHall$Roll", "cells", "[I", true)
  | 1 => ("BaulkHall$Roll", "directions", "[I", true)
  | 2 => ("BaulkHall$Roll", "forces", "[I", true)
  | 3 => ("BaulkHall$Roll", "hasDropped", "[Z", true)
  | 4 => ("BaulkHall$Roll", "meetings", "I", false)
  | 5 => ("BaulkHall$Roll", "firstMet", "I", false)
  | _ => ("BaulkHall$BoardRoll", "board", "[I", true)
def tyX0 : Nat → FieldType := fun k => match k with
  | 0 => .array .int
  | 1 => .array .int
  | 2 => .array .int
  | 3 => .array .boolean
  | 4 => .int
  | 5 => .int
  | _ => .array .int
abbrev wsX00 : List Cond := u_ws RX0 TX0 7
theorem nmX0 : ∀ a, a < 7 → ∀ b, b < 7 → a ≠ b → (TX0 a).2.1 ≠ (TX0 b).2.1 := by decide +kernel
theorem tyX0_ok : ∀ k, k < 7 → parseFieldDescriptor (TX0 k).2.2.1 = some (tyX0 k) := by decide +kernel
abbrev cX0_init : ByteArray := prog_2_method_1_code
def yX0_init : MethodName := ⟨RX0, "<init>", "()V"⟩
abbrev cX0_lay : ByteArray := prog_2_method_2_code
def yX0_lay : MethodName := ⟨RX0, "lay", "()V"⟩
abbrev cX0_ballBeside : ByteArray := prog_2_method_3_code
def yX0_ballBeside : MethodName := ⟨RX0, "ballBeside", "(II)I"⟩
abbrev cX0_note : ByteArray := prog_2_method_4_code
def yX0_note : MethodName := ⟨RX0, "note", "(III)V"⟩
abbrev cX0_put : ByteArray := prog_2_method_5_code
def yX0_put : MethodName := ⟨RX0, "put", "(II)V"⟩
def RX1 : String := "BaulkHall$Cue"
def TX1 : u_T := fun k => match k with
  | 0 => ("BaulkHall$Cue", "wear", "I", false)
  | _ => ("BaulkHall$Cue", "loan", "LBaulkHall$Loan;", false)
def tyX1 : Nat → FieldType := fun k => match k with
  | 0 => .int
  | _ => .object "BaulkHall$Loan"
abbrev wsX10 : List Cond := u_ws RX1 TX1 2
theorem nmX1 : ∀ a, a < 2 → ∀ b, b < 2 → a ≠ b → (TX1 a).2.1 ≠ (TX1 b).2.1 := by decide +kernel
theorem tyX1_ok : ∀ k, k < 2 → parseFieldDescriptor (TX1 k).2.2.1 = some (tyX1 k) := by decide +kernel
abbrev cX1_init : ByteArray := prog_3_method_1_code
def yX1_init : MethodName := ⟨RX1, "<init>", "()V"⟩
abbrev cX1_isHeldBy : ByteArray := prog_3_method_2_code
def yX1_isHeldBy : MethodName := ⟨RX1, "isHeldBy", "(I)Z"⟩
abbrev cX1_wearOff : ByteArray := prog_3_method_3_code
def yX1_wearOff : MethodName := ⟨RX1, "wearOff", "(I)V"⟩
def RX2 : String := "BaulkHall$Frame"
def TX2 : u_T := fun k => match k with
  | 0 => ("BaulkHall$Frame", "number", "I", true)
  | 1 => ("BaulkHall$Frame", "firstPlayer", "I", true)
  | 2 => ("BaulkHall$Frame", "secondPlayer", "I", true)
  | 3 => ("BaulkHall$Frame", "isLeague", "Z", true)
  | 4 => ("BaulkHall$Frame", "cells", "[I", true)
  | 5 => ("BaulkHall$Frame", "table", "LBaulkHall$Table;", false)
  | 6 => ("BaulkHall$Frame", "isTurnOfSecond", "Z", false)
  | 7 => ("BaulkHall$Frame", "hasFreeBall", "Z", false)
  | 8 => ("BaulkHall$Frame", "firstPoints", "I", false)
  | 9 => ("BaulkHall$Frame", "secondPoints", "I", false)
  | _ => ("BaulkHall$Frame", "victor", "I", false)
def tyX2 : Nat → FieldType := fun k => match k with
  | 0 => .int
  | 1 => .int
  | 2 => .int
  | 3 => .boolean
  | 4 => .array .int
  | 5 => .object "BaulkHall$Table"
  | 6 => .boolean
  | 7 => .boolean
  | 8 => .int
  | 9 => .int
  | _ => .int
abbrev wsX20 : List Cond := u_ws RX2 TX2 11
theorem nmX2 : ∀ a, a < 11 → ∀ b, b < 11 → a ≠ b → (TX2 a).2.1 ≠ (TX2 b).2.1 := by decide +kernel
theorem tyX2_ok : ∀ k, k < 11 → parseFieldDescriptor (TX2 k).2.2.1 = some (tyX2 k) := by decide +kernel
abbrev cX2_init : ByteArray := prog_4_method_1_code
def yX2_init : MethodName := ⟨RX2, "<init>", "(IIIZ)V"⟩
abbrev cX2_player : ByteArray := prog_4_method_2_code
def yX2_player : MethodName := ⟨RX2, "player", "()I"⟩
abbrev cX2_isOver : ByteArray := prog_4_method_3_code
def yX2_isOver : MethodName := ⟨RX2, "isOver", "()Z"⟩
abbrev cX2_isWaiting : ByteArray := prog_4_method_4_code
def yX2_isWaiting : MethodName := ⟨RX2, "isWaiting", "()Z"⟩
abbrev cX2_lowestBall : ByteArray := prog_4_method_5_code
def yX2_lowestBall : MethodName := ⟨RX2, "lowestBall", "()I"⟩
abbrev cX2_settle : ByteArray := prog_4_method_6_code
def yX2_settle : MethodName := ⟨RX2, "settle", "(LBaulkHall$Roll;)I"⟩
abbrev cX2_isFoul : ByteArray := prog_4_method_7_code
def yX2_isFoul : MethodName := ⟨RX2, "isFoul", "(LBaulkHall$Roll;I)Z"⟩
abbrev cX2_settleFair : ByteArray := prog_4_method_8_code
def yX2_settleFair : MethodName := ⟨RX2, "settleFair", "(LBaulkHall$Roll;)I"⟩
abbrev cX2_settleFoul : ByteArray := prog_4_method_9_code
def yX2_settleFoul : MethodName := ⟨RX2, "settleFoul", "(LBaulkHall$Roll;I)I"⟩
abbrev cX2_addPoints : ByteArray := prog_4_method_10_code
def yX2_addPoints : MethodName := ⟨RX2, "addPoints", "(ZI)V"⟩
abbrev cX2_leader : ByteArray := prog_4_method_11_code
def yX2_leader : MethodName := ⟨RX2, "leader", "()I"⟩
abbrev cX2_comeBack : ByteArray := prog_4_method_12_code
def yX2_comeBack : MethodName := ⟨RX2, "comeBack", "(I)V"⟩
abbrev cX2_lowestEmptyCell : ByteArray := prog_4_method_13_code
def yX2_lowestEmptyCell : MethodName := ⟨RX2, "lowestEmptyCell", "()I"⟩
abbrev cX2_ballIn : ByteArray := prog_4_method_14_code
def yX2_ballIn : MethodName := ⟨RX2, "ballIn", "(I)I"⟩
abbrev cX2_isHidden : ByteArray := prog_4_method_15_code
def yX2_isHidden : MethodName := ⟨RX2, "isHidden", "(I)Z"⟩
abbrev cX2_firstBallFromWhite : ByteArray := prog_4_method_16_code
def yX2_firstBallFromWhite : MethodName := ⟨RX2, "firstBallFromWhite", "(I)I"⟩
def RX3 : String := "BaulkHall$Loan"
def TX3 : u_T := fun k => match k with
  | 0 => ("BaulkHall$Loan", "customer", "I", true)
  | 1 => ("BaulkHall$Loan", "wearBefore", "I", true)
  | _ => ("BaulkHall$Loan", "wearBehind", "I", false)
def tyX3 : Nat → FieldType := fun k => match k with
  | 0 => .int
  | 1 => .int
  | _ => .int
abbrev wsX30 : List Cond := u_ws RX3 TX3 3
theorem nmX3 : ∀ a, a < 3 → ∀ b, b < 3 → a ≠ b → (TX3 a).2.1 ≠ (TX3 b).2.1 := by decide +kernel
theorem tyX3_ok : ∀ k, k < 3 → parseFieldDescriptor (TX3 k).2.2.1 = some (tyX3 k) := by decide +kernel
abbrev cX3_init : ByteArray := prog_5_method_1_code
def yX3_init : MethodName := ⟨RX3, "<init>", "(II)V"⟩
abbrev cX3_close : ByteArray := prog_5_method_2_code
def yX3_close : MethodName := ⟨RX3, "close", "(I)V"⟩
abbrev cX3_isClosed : ByteArray := prog_5_method_3_code
def yX3_isClosed : MethodName := ⟨RX3, "isClosed", "()Z"⟩
abbrev cX3_coinsKept : ByteArray := prog_5_method_4_code
def yX3_coinsKept : MethodName := ⟨RX3, "coinsKept", "()I"⟩
def RX4 : String := "BaulkHall$PairsRoll"
def TX4 : u_T := fun k => match k with
  | 0 => ("BaulkHall$Roll", "cells", "[I", true)
  | 1 => ("BaulkHall$Roll", "directions", "[I", true)
  | 2 => ("BaulkHall$Roll", "forces", "[I", true)
  | 3 => ("BaulkHall$Roll", "hasDropped", "[Z", true)
  | 4 => ("BaulkHall$Roll", "meetings", "I", false)
  | _ => ("BaulkHall$Roll", "firstMet", "I", false)
def tyX4 : Nat → FieldType := fun k => match k with
  | 0 => .array .int
  | 1 => .array .int
  | 2 => .array .int
  | 3 => .array .boolean
  | 4 => .int
  | _ => .int
abbrev wsX40 : List Cond := u_ws RX4 TX4 6
theorem nmX4 : ∀ a, a < 6 → ∀ b, b < 6 → a ≠ b → (TX4 a).2.1 ≠ (TX4 b).2.1 := by decide +kernel
theorem tyX4_ok : ∀ k, k < 6 → parseFieldDescriptor (TX4 k).2.2.1 = some (tyX4 k) := by decide +kernel
abbrev cX4_init : ByteArray := prog_6_method_1_code
def yX4_init : MethodName := ⟨RX4, "<init>", "()V"⟩
abbrev cX4_lay : ByteArray := prog_6_method_2_code
def yX4_lay : MethodName := ⟨RX4, "lay", "()V"⟩
abbrev cX4_ballBeside : ByteArray := prog_6_method_3_code
def yX4_ballBeside : MethodName := ⟨RX4, "ballBeside", "(II)I"⟩
abbrev cX4_note : ByteArray := prog_6_method_4_code
def yX4_note : MethodName := ⟨RX4, "note", "(III)V"⟩
abbrev cX4_isBeside : ByteArray := prog_6_method_5_code
def yX4_isBeside : MethodName := ⟨RX4, "isBeside", "(III)Z"⟩
def RX5 : String := "BaulkHall$Rental"
def TX5 : u_T := fun k => match k with
  | 0 => ("BaulkHall$Rental", "table", "I", true)
  | 1 => ("BaulkHall$Rental", "customer", "I", true)
  | 2 => ("BaulkHall$Rental", "start", "I", true)
  | 3 => ("BaulkHall$Rental", "end", "I", false)
  | _ => ("BaulkHall$Rental", "price", "I", false)
def tyX5 : Nat → FieldType := fun k => match k with
  | 0 => .int
  | 1 => .int
  | 2 => .int
  | 3 => .int
  | _ => .int
abbrev wsX50 : List Cond := u_ws RX5 TX5 5
theorem nmX5 : ∀ a, a < 5 → ∀ b, b < 5 → a ≠ b → (TX5 a).2.1 ≠ (TX5 b).2.1 := by decide +kernel
theorem tyX5_ok : ∀ k, k < 5 → parseFieldDescriptor (TX5 k).2.2.1 = some (tyX5 k) := by decide +kernel
abbrev cX5_init : ByteArray := prog_7_method_1_code
def yX5_init : MethodName := ⟨RX5, "<init>", "(III)V"⟩
abbrev cX5_close : ByteArray := prog_7_method_2_code
def yX5_close : MethodName := ⟨RX5, "close", "(II)V"⟩
abbrev cX5_isClosed : ByteArray := prog_7_method_3_code
def yX5_isClosed : MethodName := ⟨RX5, "isClosed", "()Z"⟩
def RX6 : String := "BaulkHall$Roll"
def TX6 : u_T := fun k => match k with
  | _ => ("", "", "", false)
def tyX6 : Nat → FieldType := fun k => match k with
  | _ => .int
abbrev wsX60 : List Cond := u_ws RX6 TX6 0
theorem nmX6 : ∀ a, a < 0 → ∀ b, b < 0 → a ≠ b → (TX6 a).2.1 ≠ (TX6 b).2.1 := by decide +kernel
theorem tyX6_ok : ∀ k, k < 0 → parseFieldDescriptor (TX6 k).2.2.1 = some (tyX6 k) := by decide +kernel
abbrev cX6_init : ByteArray := prog_8_method_1_code
def yX6_init : MethodName := ⟨RX6, "<init>", "()V"⟩
abbrev cX6_run : ByteArray := prog_8_method_5_code
def yX6_run : MethodName := ⟨RX6, "run", "([III)V"⟩
abbrev cX6_droppedNumbers : ByteArray := prog_8_method_6_code
def yX6_droppedNumbers : MethodName := ⟨RX6, "droppedNumbers", "()I"⟩
abbrev cX6_isSomeRolling : ByteArray := prog_8_method_7_code
def yX6_isSomeRolling : MethodName := ⟨RX6, "isSomeRolling", "()Z"⟩
abbrev cX6_isRolling : ByteArray := prog_8_method_8_code
def yX6_isRolling : MethodName := ⟨RX6, "isRolling", "(I)Z"⟩
abbrev cX6_act : ByteArray := prog_8_method_9_code
def yX6_act : MethodName := ⟨RX6, "act", "(I)V"⟩
abbrev cX6_meet : ByteArray := prog_8_method_10_code
def yX6_meet : MethodName := ⟨RX6, "meet", "(II)V"⟩
abbrev cX6_roll : ByteArray := prog_8_method_11_code
def yX6_roll : MethodName := ⟨RX6, "roll", "(II)V"⟩
def RX7 : String := "BaulkHall$Stay"
def TX7 : u_T := fun k => match k with
  | 0 => ("BaulkHall$Stay", "table", "I", true)
  | 1 => ("BaulkHall$Stay", "start", "I", true)
  | _ => ("BaulkHall$Stay", "end", "I", false)
def tyX7 : Nat → FieldType := fun k => match k with
  | 0 => .int
  | 1 => .int
  | _ => .int
abbrev wsX70 : List Cond := u_ws RX7 TX7 3
theorem nmX7 : ∀ a, a < 3 → ∀ b, b < 3 → a ≠ b → (TX7 a).2.1 ≠ (TX7 b).2.1 := by decide +kernel
theorem tyX7_ok : ∀ k, k < 3 → parseFieldDescriptor (TX7 k).2.2.1 = some (tyX7 k) := by decide +kernel
abbrev cX7_init : ByteArray := prog_9_method_1_code
def yX7_init : MethodName := ⟨RX7, "<init>", "(II)V"⟩
abbrev cX7_close : ByteArray := prog_9_method_2_code
def yX7_close : MethodName := ⟨RX7, "close", "(I)V"⟩
abbrev cX7_minutesWithin : ByteArray := prog_9_method_3_code
def yX7_minutesWithin : MethodName := ⟨RX7, "minutesWithin", "(II)I"⟩
def RX8 : String := "BaulkHall$Table"
def TX8 : u_T := fun k => match k with
  | 0 => ("BaulkHall$Table", "isOpen", "Z", false)
  | 1 => ("BaulkHall$Table", "rental", "LBaulkHall$Rental;", false)
  | 2 => ("BaulkHall$Table", "minutes", "I", false)
  | 3 => ("BaulkHall$Table", "frame", "LBaulkHall$Frame;", false)
  | _ => ("BaulkHall$Table", "stay", "LBaulkHall$Stay;", false)
def tyX8 : Nat → FieldType := fun k => match k with
  | 0 => .boolean
  | 1 => .object "BaulkHall$Rental"
  | 2 => .int
  | 3 => .object "BaulkHall$Frame"
  | _ => .object "BaulkHall$Stay"
abbrev wsX80 : List Cond := u_ws RX8 TX8 5
theorem nmX8 : ∀ a, a < 5 → ∀ b, b < 5 → a ≠ b → (TX8 a).2.1 ≠ (TX8 b).2.1 := by decide +kernel
theorem tyX8_ok : ∀ k, k < 5 → parseFieldDescriptor (TX8 k).2.2.1 = some (tyX8 k) := by decide +kernel
abbrev cX8_init : ByteArray := prog_10_method_1_code
def yX8_init : MethodName := ⟨RX8, "<init>", "()V"⟩
abbrev cX8_isRentedBy : ByteArray := prog_10_method_2_code
def yX8_isRentedBy : MethodName := ⟨RX8, "isRentedBy", "(I)Z"⟩
abbrev cX8_isCounting : ByteArray := prog_10_method_3_code
def yX8_isCounting : MethodName := ⟨RX8, "isCounting", "()Z"⟩
def RX9 : String := "BaulkHall"
def TX9 : u_T := fun k => match k with
  | 0 => ("BaulkHall", "tables", "[LBaulkHall$Table;", true)
  | 1 => ("BaulkHall", "cues", "[LBaulkHall$Cue;", true)
  | 2 => ("BaulkHall", "begunFrames", "[LBaulkHall$Frame;", true)
  | 3 => ("BaulkHall", "rentals", "[LBaulkHall$Rental;", true)
  | 4 => ("BaulkHall", "stays", "[LBaulkHall$Stay;", true)
  | 5 => ("BaulkHall", "loans", "[LBaulkHall$Loan;", true)
  | 6 => ("BaulkHall", "debts", "[I", true)
  | 7 => ("BaulkHall", "leagueWins", "[I", true)
  | 8 => ("BaulkHall", "boardRoll", "LBaulkHall$Roll;", true)
  | 9 => ("BaulkHall", "pairsRoll", "LBaulkHall$Roll;", true)
  | 10 => ("BaulkHall", "frameCount", "I", false)
  | 11 => ("BaulkHall", "rentalCount", "I", false)
  | 12 => ("BaulkHall", "stayCount", "I", false)
  | 13 => ("BaulkHall", "loanCount", "I", false)
  | 14 => ("BaulkHall", "price", "I", false)
  | _ => ("BaulkHall", "now", "I", false)
def tyX9 : Nat → FieldType := fun k => match k with
  | 0 => .array (.object "BaulkHall$Table")
  | 1 => .array (.object "BaulkHall$Cue")
  | 2 => .array (.object "BaulkHall$Frame")
  | 3 => .array (.object "BaulkHall$Rental")
  | 4 => .array (.object "BaulkHall$Stay")
  | 5 => .array (.object "BaulkHall$Loan")
  | 6 => .array .int
  | 7 => .array .int
  | 8 => .object "BaulkHall$Roll"
  | 9 => .object "BaulkHall$Roll"
  | 10 => .int
  | 11 => .int
  | 12 => .int
  | 13 => .int
  | 14 => .int
  | _ => .int
abbrev wsX90 : List Cond := u_ws RX9 TX9 16
theorem nmX9 : ∀ a, a < 16 → ∀ b, b < 16 → a ≠ b → (TX9 a).2.1 ≠ (TX9 b).2.1 := by decide +kernel
theorem tyX9_ok : ∀ k, k < 16 → parseFieldDescriptor (TX9 k).2.2.1 = some (tyX9 k) := by decide +kernel
abbrev cX9_init : ByteArray := prog_1_method_1_code
def yX9_init : MethodName := ⟨RX9, "<init>", "()V"⟩
abbrev cX9_setPrice : ByteArray := prog_1_method_2_code
def yX9_setPrice : MethodName := ⟨RX9, "setPrice", "(I)I"⟩
abbrev cX9_rent : ByteArray := prog_1_method_3_code
def yX9_rent : MethodName := ⟨RX9, "rent", "(II)I"⟩
abbrev cX9_end : ByteArray := prog_1_method_4_code
def yX9_end : MethodName := ⟨RX9, "end", "(I)I"⟩
abbrev cX9_tear : ByteArray := prog_1_method_5_code
def yX9_tear : MethodName := ⟨RX9, "tear", "(I)I"⟩
abbrev cX9_mend : ByteArray := prog_1_method_6_code
def yX9_mend : MethodName := ⟨RX9, "mend", "(I)I"⟩
abbrev cX9_pass : ByteArray := prog_1_method_7_code
def yX9_pass : MethodName := ⟨RX9, "pass", "(I)I"⟩
abbrev cX9_begin : ByteArray := prog_1_method_8_code
def yX9_begin : MethodName := ⟨RX9, "begin", "(IIIZ)I"⟩
abbrev cX9_resume : ByteArray := prog_1_method_9_code
def yX9_resume : MethodName := ⟨RX9, "resume", "(II)I"⟩
abbrev cX9_shoot : ByteArray := prog_1_method_10_code
def yX9_shoot : MethodName := ⟨RX9, "shoot", "(III)I"⟩
abbrev cX9_lend : ByteArray := prog_1_method_11_code
def yX9_lend : MethodName := ⟨RX9, "lend", "(II)I"⟩
abbrev cX9_takeBack : ByteArray := prog_1_method_12_code
def yX9_takeBack : MethodName := ⟨RX9, "takeBack", "(I)I"⟩
abbrev cX9_tip : ByteArray := prog_1_method_13_code
def yX9_tip : MethodName := ⟨RX9, "tip", "(I)I"⟩
abbrev cX9_minute : ByteArray := prog_1_method_14_code
def yX9_minute : MethodName := ⟨RX9, "minute", "()I"⟩
abbrev cX9_isOpen : ByteArray := prog_1_method_15_code
def yX9_isOpen : MethodName := ⟨RX9, "isOpen", "(I)Z"⟩
abbrev cX9_renter : ByteArray := prog_1_method_16_code
def yX9_renter : MethodName := ⟨RX9, "renter", "(I)I"⟩
abbrev cX9_clock : ByteArray := prog_1_method_17_code
def yX9_clock : MethodName := ⟨RX9, "clock", "(I)I"⟩
abbrev cX9_frameOn : ByteArray := prog_1_method_18_code
def yX9_frameOn : MethodName := ⟨RX9, "frameOn", "(I)I"⟩
abbrev cX9_owes : ByteArray := prog_1_method_19_code
def yX9_owes : MethodName := ⟨RX9, "owes", "(I)I"⟩
abbrev cX9_owesAnew : ByteArray := prog_1_method_20_code
def yX9_owesAnew : MethodName := ⟨RX9, "owesAnew", "(I)I"⟩
abbrev cX9_frames : ByteArray := prog_1_method_21_code
def yX9_frames : MethodName := ⟨RX9, "frames", "()I"⟩
abbrev cX9_state : ByteArray := prog_1_method_22_code
def yX9_state : MethodName := ⟨RX9, "state", "(I)I"⟩
abbrev cX9_cell : ByteArray := prog_1_method_23_code
def yX9_cell : MethodName := ⟨RX9, "cell", "(II)I"⟩
abbrev cX9_ballOn : ByteArray := prog_1_method_24_code
def yX9_ballOn : MethodName := ⟨RX9, "ballOn", "(I)I"⟩
abbrev cX9_isFree : ByteArray := prog_1_method_25_code
def yX9_isFree : MethodName := ⟨RX9, "isFree", "(I)Z"⟩
abbrev cX9_turn : ByteArray := prog_1_method_26_code
def yX9_turn : MethodName := ⟨RX9, "turn", "(I)I"⟩
abbrev cX9_points : ByteArray := prog_1_method_27_code
def yX9_points : MethodName := ⟨RX9, "points", "(IZ)I"⟩
abbrev cX9_winner : ByteArray := prog_1_method_28_code
def yX9_winner : MethodName := ⟨RX9, "winner", "(I)I"⟩
abbrev cX9_contacts : ByteArray := prog_1_method_29_code
def yX9_contacts : MethodName := ⟨RX9, "contacts", "(III)I"⟩
abbrev cX9_contactsByPairs : ByteArray := prog_1_method_30_code
def yX9_contactsByPairs : MethodName := ⟨RX9, "contactsByPairs", "(III)I"⟩
abbrev cX9_wins : ByteArray := prog_1_method_31_code
def yX9_wins : MethodName := ⟨RX9, "wins", "(I)I"⟩
abbrev cX9_rank : ByteArray := prog_1_method_32_code
def yX9_rank : MethodName := ⟨RX9, "rank", "(I)I"⟩
abbrev cX9_wear : ByteArray := prog_1_method_33_code
def yX9_wear : MethodName := ⟨RX9, "wear", "(I)I"⟩
abbrev cX9_cueOf : ByteArray := prog_1_method_34_code
def yX9_cueOf : MethodName := ⟨RX9, "cueOf", "(I)I"⟩
abbrev cX9_force : ByteArray := prog_1_method_35_code
def yX9_force : MethodName := ⟨RX9, "force", "(II)I"⟩
abbrev cX9_requireRange : ByteArray := prog_1_method_36_code
def yX9_requireRange : MethodName := ⟨RX9, "requireRange", "(III)V"⟩
abbrev cX9_requireCustomer : ByteArray := prog_1_method_37_code
def yX9_requireCustomer : MethodName := ⟨RX9, "requireCustomer", "(I)V"⟩
abbrev cX9_tableAt : ByteArray := prog_1_method_38_code
def yX9_tableAt : MethodName := ⟨RX9, "tableAt", "(I)LBaulkHall$Table;"⟩
abbrev cX9_cueAt : ByteArray := prog_1_method_39_code
def yX9_cueAt : MethodName := ⟨RX9, "cueAt", "(I)LBaulkHall$Cue;"⟩
abbrev cX9_frameAt : ByteArray := prog_1_method_40_code
def yX9_frameAt : MethodName := ⟨RX9, "frameAt", "(I)LBaulkHall$Frame;"⟩
abbrev cX9_requirePlace : ByteArray := prog_1_method_41_code
def yX9_requirePlace : MethodName := ⟨RX9, "requirePlace", "(LBaulkHall$Table;ZII)V"⟩
abbrev cX9_rentsAny : ByteArray := prog_1_method_42_code
def yX9_rentsAny : MethodName := ⟨RX9, "rentsAny", "(I)Z"⟩
abbrev cX9_rentedTables : ByteArray := prog_1_method_43_code
def yX9_rentedTables : MethodName := ⟨RX9, "rentedTables", "()I"⟩
abbrev cX9_openTables : ByteArray := prog_1_method_44_code
def yX9_openTables : MethodName := ⟨RX9, "openTables", "()I"⟩
abbrev cX9_endRental : ByteArray := prog_1_method_45_code
def yX9_endRental : MethodName := ⟨RX9, "endRental", "(LBaulkHall$Table;)I"⟩
abbrev cX9_billFor : ByteArray := prog_1_method_46_code
def yX9_billFor : MethodName := ⟨RX9, "billFor", "(II)I"⟩
abbrev cX9_addDebt : ByteArray := prog_1_method_47_code
def yX9_addDebt : MethodName := ⟨RX9, "addDebt", "(II)V"⟩
abbrev cX9_billsAnew : ByteArray := prog_1_method_48_code
def yX9_billsAnew : MethodName := ⟨RX9, "billsAnew", "(I)I"⟩
abbrev cX9_leagueMinutes : ByteArray := prog_1_method_49_code
def yX9_leagueMinutes : MethodName := ⟨RX9, "leagueMinutes", "(LBaulkHall$Rental;)I"⟩
abbrev cX9_depositsAnew : ByteArray := prog_1_method_50_code
def yX9_depositsAnew : MethodName := ⟨RX9, "depositsAnew", "(I)I"⟩
abbrev cX9_putFrameOn : ByteArray := prog_1_method_51_code
def yX9_putFrameOn : MethodName := ⟨RX9, "putFrameOn", "(LBaulkHall$Frame;LBaulkHall$Table;I)V"⟩
abbrev cX9_takeFrameOff : ByteArray := prog_1_method_52_code
def yX9_takeFrameOff : MethodName := ⟨RX9, "takeFrameOff", "(LBaulkHall$Table;)V"⟩
abbrev cX9_countWin : ByteArray := prog_1_method_53_code
def yX9_countWin : MethodName := ⟨RX9, "countWin", "(LBaulkHall$Frame;)V"⟩
abbrev cX9_cueHeldBy : ByteArray := prog_1_method_54_code
def yX9_cueHeldBy : MethodName := ⟨RX9, "cueHeldBy", "(I)LBaulkHall$Cue;"⟩
abbrev cX9_forceWith : ByteArray := prog_1_method_55_code
def yX9_forceWith : MethodName := ⟨RX9, "forceWith", "(LBaulkHall$Cue;I)I"⟩
abbrev cX9_contactsOf : ByteArray := prog_1_method_56_code
def yX9_contactsOf : MethodName := ⟨RX9, "contactsOf", "(LBaulkHall$Roll;III)I"⟩
abbrev cX9_cellBeside : ByteArray := prog_1_method_57_code
def yX9_cellBeside : MethodName := ⟨RX9, "cellBeside", "(II)I"⟩
abbrev cX9_isColumn : ByteArray := prog_1_method_58_code
def yX9_isColumn : MethodName := ⟨RX9, "isColumn", "(I)Z"⟩
abbrev cX9_isRow : ByteArray := prog_1_method_59_code
def yX9_isRow : MethodName := ⟨RX9, "isRow", "(I)Z"⟩
abbrev cX9_isPocket : ByteArray := prog_1_method_60_code
def yX9_isPocket : MethodName := ⟨RX9, "isPocket", "(I)Z"⟩
abbrev cX9_turnedBack : ByteArray := prog_1_method_61_code
def yX9_turnedBack : MethodName := ⟨RX9, "turnedBack", "(II)I"⟩
def RX10 : String := "BaulkHallModel"
def TX10 : u_T := fun k => match k with
  | 0 => ("BaulkHallModel", "minute", "I", false)
  | 1 => ("BaulkHallModel", "price", "I", false)
  | 2 => ("BaulkHallModel", "closed", "[Z", true)
  | 3 => ("BaulkHallModel", "rents", "[I", true)
  | 4 => ("BaulkHallModel", "has", "[I", true)
  | 5 => ("BaulkHallModel", "clock", "[I", true)
  | 6 => ("BaulkHallModel", "bills", "[I", true)
  | 7 => ("BaulkHallModel", "lent", "[I", true)
  | 8 => ("BaulkHallModel", "wear", "[I", true)
  | 9 => ("BaulkHallModel", "then", "[I", true)
  | 10 => ("BaulkHallModel", "frames", "I", false)
  | 11 => ("BaulkHallModel", "players", "[I", true)
  | 12 => ("BaulkHallModel", "league", "[Z", true)
  | 13 => ("BaulkHallModel", "state", "[I", true)
  | 14 => ("BaulkHallModel", "turn", "[I", true)
  | 15 => ("BaulkHallModel", "points", "[I", true)
  | 16 => ("BaulkHallModel", "free", "[Z", true)
  | 17 => ("BaulkHallModel", "won", "[I", true)
  | 18 => ("BaulkHallModel", "ball", "[I", true)
  | 19 => ("BaulkHallModel", "at", "[I", true)
  | 20 => ("BaulkHallModel", "way", "[I", true)
  | 21 => ("BaulkHallModel", "power", "[I", true)
  | 22 => ("BaulkHallModel", "met", "I", false)
  | 23 => ("BaulkHallModel", "contacts", "I", false)
  | 24 => ("BaulkHallModel", "dropped", "I", false)
  | _ => ("BaulkHallModel", "thrown", "I", false)
def tyX10 : Nat → FieldType := fun k => match k with
  | 0 => .int
  | 1 => .int
  | 2 => .array .boolean
  | 3 => .array .int
  | 4 => .array .int
  | 5 => .array .int
  | 6 => .array .int
  | 7 => .array .int
  | 8 => .array .int
  | 9 => .array .int
  | 10 => .int
  | 11 => .array .int
  | 12 => .array .boolean
  | 13 => .array .int
  | 14 => .array .int
  | 15 => .array .int
  | 16 => .array .boolean
  | 17 => .array .int
  | 18 => .array .int
  | 19 => .array .int
  | 20 => .array .int
  | 21 => .array .int
  | 22 => .int
  | 23 => .int
  | 24 => .int
  | _ => .int
abbrev wsX100 : List Cond := u_ws RX10 TX10 26
theorem nmX10 : ∀ a, a < 26 → ∀ b, b < 26 → a ≠ b → (TX10 a).2.1 ≠ (TX10 b).2.1 := by decide +kernel
theorem tyX10_ok : ∀ k, k < 26 → parseFieldDescriptor (TX10 k).2.2.1 = some (tyX10 k) := by decide +kernel
abbrev cX10_init : ByteArray := prog_12_method_1_code
def yX10_init : MethodName := ⟨RX10, "<init>", "()V"⟩
abbrev cX10_thrown : ByteArray := prog_12_method_2_code
def yX10_thrown : MethodName := ⟨RX10, "thrown", "()I"⟩
abbrev cX10_isIn : ByteArray := prog_12_method_3_code
def yX10_isIn : MethodName := ⟨RX10, "isIn", "(III)Z"⟩
abbrev cX10_isTable : ByteArray := prog_12_method_4_code
def yX10_isTable : MethodName := ⟨RX10, "isTable", "(I)Z"⟩
abbrev cX10_isCustomer : ByteArray := prog_12_method_5_code
def yX10_isCustomer : MethodName := ⟨RX10, "isCustomer", "(I)Z"⟩
abbrev cX10_spot : ByteArray := prog_12_method_6_code
def yX10_spot : MethodName := ⟨RX10, "spot", "(I)I"⟩
abbrev cX10_isPocket : ByteArray := prog_12_method_7_code
def yX10_isPocket : MethodName := ⟨RX10, "isPocket", "(I)Z"⟩
abbrev cX10_setPrice : ByteArray := prog_12_method_8_code
def yX10_setPrice : MethodName := ⟨RX10, "setPrice", "(I)I"⟩
abbrev cX10_tableOf : ByteArray := prog_12_method_9_code
def yX10_tableOf : MethodName := ⟨RX10, "tableOf", "(I)I"⟩
abbrev cX10_rent : ByteArray := prog_12_method_10_code
def yX10_rent : MethodName := ⟨RX10, "rent", "(II)I"⟩
abbrev cX10_asksTable : ByteArray := prog_12_method_11_code
def yX10_asksTable : MethodName := ⟨RX10, "asksTable", "(I)Z"⟩
abbrev cX10_clears : ByteArray := prog_12_method_12_code
def yX10_clears : MethodName := ⟨RX10, "clears", "(I)V"⟩
abbrev cX10_ends : ByteArray := prog_12_method_13_code
def yX10_ends : MethodName := ⟨RX10, "ends", "(I)I"⟩
abbrev cX10_end : ByteArray := prog_12_method_14_code
def yX10_end : MethodName := ⟨RX10, "end", "(I)I"⟩
abbrev cX10_tear : ByteArray := prog_12_method_15_code
def yX10_tear : MethodName := ⟨RX10, "tear", "(I)I"⟩
abbrev cX10_mend : ByteArray := prog_12_method_16_code
def yX10_mend : MethodName := ⟨RX10, "mend", "(I)I"⟩
abbrev cX10_pass : ByteArray := prog_12_method_17_code
def yX10_pass : MethodName := ⟨RX10, "pass", "(I)I"⟩
abbrev cX10_mayPlay : ByteArray := prog_12_method_18_code
def yX10_mayPlay : MethodName := ⟨RX10, "mayPlay", "(IIIZ)Z"⟩
abbrev cX10_begin : ByteArray := prog_12_method_19_code
def yX10_begin : MethodName := ⟨RX10, "begin", "(IIIZ)I"⟩
abbrev cX10_asks : ByteArray := prog_12_method_20_code
def yX10_asks : MethodName := ⟨RX10, "asks", "(I)Z"⟩
abbrev cX10_resume : ByteArray := prog_12_method_21_code
def yX10_resume : MethodName := ⟨RX10, "resume", "(II)I"⟩
abbrev cX10_right : ByteArray := prog_12_method_22_code
def yX10_right : MethodName := ⟨RX10, "right", "(I)I"⟩
abbrev cX10_down : ByteArray := prog_12_method_23_code
def yX10_down : MethodName := ⟨RX10, "down", "(I)I"⟩
abbrev cX10_inCell : ByteArray := prog_12_method_24_code
def yX10_inCell : MethodName := ⟨RX10, "inCell", "(I)I"⟩
abbrev cX10_rolls : ByteArray := prog_12_method_25_code
def yX10_rolls : MethodName := ⟨RX10, "rolls", "(I)V"⟩
abbrev cX10_isRolling : ByteArray := prog_12_method_26_code
def yX10_isRolling : MethodName := ⟨RX10, "isRolling", "()Z"⟩
abbrev cX10_shot : ByteArray := prog_12_method_27_code
def yX10_shot : MethodName := ⟨RX10, "shot", "(III)V"⟩
abbrev cX10_lowest : ByteArray := prog_12_method_28_code
def yX10_lowest : MethodName := ⟨RX10, "lowest", "(I)I"⟩
abbrev cX10_comesBack : ByteArray := prog_12_method_29_code
def yX10_comesBack : MethodName := ⟨RX10, "comesBack", "(II)V"⟩
abbrev cX10_seen : ByteArray := prog_12_method_30_code
def yX10_seen : MethodName := ⟨RX10, "seen", "(I)I"⟩
abbrev cX10_isHidden : ByteArray := prog_12_method_31_code
def yX10_isHidden : MethodName := ⟨RX10, "isHidden", "(I)Z"⟩
abbrev cX10_cueWith : ByteArray := prog_12_method_32_code
def yX10_cueWith : MethodName := ⟨RX10, "cueWith", "(I)I"⟩
abbrev cX10_forceOf : ByteArray := prog_12_method_33_code
def yX10_forceOf : MethodName := ⟨RX10, "forceOf", "(II)I"⟩
abbrev cX10_fouls : ByteArray := prog_12_method_34_code
def yX10_fouls : MethodName := ⟨RX10, "fouls", "(II)I"⟩
abbrev cX10_isOver : ByteArray := prog_12_method_35_code
def yX10_isOver : MethodName := ⟨RX10, "isOver", "(I)V"⟩
abbrev cX10_scores : ByteArray := prog_12_method_36_code
def yX10_scores : MethodName := ⟨RX10, "scores", "(I)I"⟩
abbrev cX10_shoot : ByteArray := prog_12_method_37_code
def yX10_shoot : MethodName := ⟨RX10, "shoot", "(III)I"⟩
abbrev cX10_isCue : ByteArray := prog_12_method_38_code
def yX10_isCue : MethodName := ⟨RX10, "isCue", "(I)Z"⟩
abbrev cX10_lend : ByteArray := prog_12_method_39_code
def yX10_lend : MethodName := ⟨RX10, "lend", "(II)I"⟩
abbrev cX10_takeBack : ByteArray := prog_12_method_40_code
def yX10_takeBack : MethodName := ⟨RX10, "takeBack", "(I)I"⟩
abbrev cX10_tip : ByteArray := prog_12_method_41_code
def yX10_tip : MethodName := ⟨RX10, "tip", "(I)I"⟩
abbrev cX10_minute : ByteArray := prog_12_method_42_code
def yX10_minute : MethodName := ⟨RX10, "minute", "()I"⟩
abbrev cX10_isOpen : ByteArray := prog_12_method_43_code
def yX10_isOpen : MethodName := ⟨RX10, "isOpen", "(I)Z"⟩
abbrev cX10_renter : ByteArray := prog_12_method_44_code
def yX10_renter : MethodName := ⟨RX10, "renter", "(I)I"⟩
abbrev cX10_clock : ByteArray := prog_12_method_45_code
def yX10_clock : MethodName := ⟨RX10, "clock", "(I)I"⟩
abbrev cX10_frameOn : ByteArray := prog_12_method_46_code
def yX10_frameOn : MethodName := ⟨RX10, "frameOn", "(I)I"⟩
abbrev cX10_sum : ByteArray := prog_12_method_47_code
def yX10_sum : MethodName := ⟨RX10, "sum", "(I)I"⟩
abbrev cX10_owes : ByteArray := prog_12_method_48_code
def yX10_owes : MethodName := ⟨RX10, "owes", "(I)I"⟩
abbrev cX10_owesAnew : ByteArray := prog_12_method_49_code
def yX10_owesAnew : MethodName := ⟨RX10, "owesAnew", "(I)I"⟩
abbrev cX10_frames : ByteArray := prog_12_method_50_code
def yX10_frames : MethodName := ⟨RX10, "frames", "()I"⟩
abbrev cX10_state : ByteArray := prog_12_method_51_code
def yX10_state : MethodName := ⟨RX10, "state", "(I)I"⟩
abbrev cX10_cell : ByteArray := prog_12_method_52_code
def yX10_cell : MethodName := ⟨RX10, "cell", "(II)I"⟩
abbrev cX10_ballOn : ByteArray := prog_12_method_53_code
def yX10_ballOn : MethodName := ⟨RX10, "ballOn", "(I)I"⟩
abbrev cX10_isFree : ByteArray := prog_12_method_54_code
def yX10_isFree : MethodName := ⟨RX10, "isFree", "(I)Z"⟩
abbrev cX10_turn : ByteArray := prog_12_method_55_code
def yX10_turn : MethodName := ⟨RX10, "turn", "(I)I"⟩
abbrev cX10_points : ByteArray := prog_12_method_56_code
def yX10_points : MethodName := ⟨RX10, "points", "(IZ)I"⟩
abbrev cX10_winner : ByteArray := prog_12_method_57_code
def yX10_winner : MethodName := ⟨RX10, "winner", "(I)I"⟩
abbrev cX10_meetings : ByteArray := prog_12_method_58_code
def yX10_meetings : MethodName := ⟨RX10, "meetings", "(III)I"⟩
abbrev cX10_contacts : ByteArray := prog_12_method_59_code
def yX10_contacts : MethodName := ⟨RX10, "contacts", "(III)I"⟩
abbrev cX10_contactsByPairs : ByteArray := prog_12_method_60_code
def yX10_contactsByPairs : MethodName := ⟨RX10, "contactsByPairs", "(III)I"⟩
abbrev cX10_winsOf : ByteArray := prog_12_method_61_code
def yX10_winsOf : MethodName := ⟨RX10, "winsOf", "(I)I"⟩
abbrev cX10_wins : ByteArray := prog_12_method_62_code
def yX10_wins : MethodName := ⟨RX10, "wins", "(I)I"⟩
abbrev cX10_rank : ByteArray := prog_12_method_63_code
def yX10_rank : MethodName := ⟨RX10, "rank", "(I)I"⟩
abbrev cX10_wear : ByteArray := prog_12_method_64_code
def yX10_wear : MethodName := ⟨RX10, "wear", "(I)I"⟩
abbrev cX10_cueOf : ByteArray := prog_12_method_65_code
def yX10_cueOf : MethodName := ⟨RX10, "cueOf", "(I)I"⟩
abbrev cX10_force : ByteArray := prog_12_method_66_code
def yX10_force : MethodName := ⟨RX10, "force", "(II)I"⟩
def RJ9 : String := "java/lang/Math"
def TJ9 : u_T := fun k => match k with
  | _ => ("", "", "", false)
def tyJ9 : Nat → FieldType := fun k => match k with
  | _ => .int
theorem nmJ9 : ∀ a, a < 0 → ∀ b, b < 0 → a ≠ b → (TJ9 a).2.1 ≠ (TJ9 b).2.1 := by decide +kernel
theorem tyJ9_ok : ∀ k, k < 0 → parseFieldDescriptor (TJ9 k).2.2.1 = some (tyJ9 k) := by decide +kernel
abbrev cJ9_max_7cf53 : ByteArray := prog_18_method_65_code
abbrev cJ9_min_7cf53 : ByteArray := prog_18_method_69_code
def RL : String := "BaulkHallLaw"
abbrev cL_setPrice : ByteArray := method_3_code
def yL_setPrice : MethodName := ⟨RL, "setPrice", "(LBaulkHall;I[J)I"⟩
abbrev cL_rent : ByteArray := method_4_code
def yL_rent : MethodName := ⟨RL, "rent", "(LBaulkHall;II[J)I"⟩
abbrev cL_end : ByteArray := method_5_code
def yL_end : MethodName := ⟨RL, "end", "(LBaulkHall;I[J)I"⟩
abbrev cL_tear : ByteArray := method_6_code
def yL_tear : MethodName := ⟨RL, "tear", "(LBaulkHall;I[J)I"⟩
abbrev cL_mend : ByteArray := method_7_code
def yL_mend : MethodName := ⟨RL, "mend", "(LBaulkHall;I[J)I"⟩
abbrev cL_pass : ByteArray := method_8_code
def yL_pass : MethodName := ⟨RL, "pass", "(LBaulkHall;I[J)I"⟩
abbrev cL_begin : ByteArray := method_9_code
def yL_begin : MethodName := ⟨RL, "begin", "(LBaulkHall;IIIZ[J)I"⟩
abbrev cL_resume : ByteArray := method_10_code
def yL_resume : MethodName := ⟨RL, "resume", "(LBaulkHall;II[J)I"⟩
abbrev cL_shoot : ByteArray := method_11_code
def yL_shoot : MethodName := ⟨RL, "shoot", "(LBaulkHall;III[J)I"⟩
abbrev cL_lend : ByteArray := method_12_code
def yL_lend : MethodName := ⟨RL, "lend", "(LBaulkHall;II[J)I"⟩
abbrev cL_takeBack : ByteArray := method_13_code
def yL_takeBack : MethodName := ⟨RL, "takeBack", "(LBaulkHall;I[J)I"⟩
abbrev cL_tip : ByteArray := method_14_code
def yL_tip : MethodName := ⟨RL, "tip", "(LBaulkHall;I[J)I"⟩
abbrev cL_isOpen : ByteArray := method_15_code
def yL_isOpen : MethodName := ⟨RL, "isOpen", "(LBaulkHall;I[J)I"⟩
abbrev cL_renter : ByteArray := method_16_code
def yL_renter : MethodName := ⟨RL, "renter", "(LBaulkHall;I[J)I"⟩
abbrev cL_clock : ByteArray := method_17_code
def yL_clock : MethodName := ⟨RL, "clock", "(LBaulkHall;I[J)I"⟩
abbrev cL_frameOn : ByteArray := method_18_code
def yL_frameOn : MethodName := ⟨RL, "frameOn", "(LBaulkHall;I[J)I"⟩
abbrev cL_owes : ByteArray := method_19_code
def yL_owes : MethodName := ⟨RL, "owes", "(LBaulkHall;I[J)I"⟩
abbrev cL_owesAnew : ByteArray := method_20_code
def yL_owesAnew : MethodName := ⟨RL, "owesAnew", "(LBaulkHall;I[J)I"⟩
abbrev cL_state : ByteArray := method_21_code
def yL_state : MethodName := ⟨RL, "state", "(LBaulkHall;I[J)I"⟩
abbrev cL_cell : ByteArray := method_22_code
def yL_cell : MethodName := ⟨RL, "cell", "(LBaulkHall;II[J)I"⟩
abbrev cL_ballOn : ByteArray := method_23_code
def yL_ballOn : MethodName := ⟨RL, "ballOn", "(LBaulkHall;I[J)I"⟩
abbrev cL_isFree : ByteArray := method_24_code
def yL_isFree : MethodName := ⟨RL, "isFree", "(LBaulkHall;I[J)I"⟩
abbrev cL_turn : ByteArray := method_25_code
def yL_turn : MethodName := ⟨RL, "turn", "(LBaulkHall;I[J)I"⟩
abbrev cL_points : ByteArray := method_26_code
def yL_points : MethodName := ⟨RL, "points", "(LBaulkHall;IZ[J)I"⟩
abbrev cL_winner : ByteArray := method_27_code
def yL_winner : MethodName := ⟨RL, "winner", "(LBaulkHall;I[J)I"⟩
abbrev cL_contacts : ByteArray := method_28_code
def yL_contacts : MethodName := ⟨RL, "contacts", "(LBaulkHall;III[J)I"⟩
abbrev cL_contactsByPairs : ByteArray := method_29_code
def yL_contactsByPairs : MethodName := ⟨RL, "contactsByPairs", "(LBaulkHall;III[J)I"⟩
abbrev cL_wins : ByteArray := method_30_code
def yL_wins : MethodName := ⟨RL, "wins", "(LBaulkHall;I[J)I"⟩
abbrev cL_rank : ByteArray := method_31_code
def yL_rank : MethodName := ⟨RL, "rank", "(LBaulkHall;I[J)I"⟩
abbrev cL_wear : ByteArray := method_32_code
def yL_wear : MethodName := ⟨RL, "wear", "(LBaulkHall;I[J)I"⟩
abbrev cL_cueOf : ByteArray := method_33_code
def yL_cueOf : MethodName := ⟨RL, "cueOf", "(LBaulkHall;I[J)I"⟩
abbrev cL_force : ByteArray := method_34_code
def yL_force : MethodName := ⟨RL, "force", "(LBaulkHall;II[J)I"⟩
abbrev cL_law : ByteArray := code
def yL_law : MethodName := ⟨RL, "law", "([I)Z"⟩
abbrev vwCl : List vw_C := [(RX0, TX0, 7), (RX1, TX1, 2), (RX2, TX2, 11), (RX3, TX3, 3), (RX4, TX4, 6), (RX5, TX5, 5), (RX7, TX7, 3), (RX8, TX8, 5), (RX9, TX9, 16), (RX10, TX10, 26)]
end
section
-- ===== THE WORDS: the good ones of the tables; those that a warmer machine keeps; the texts =====
/-- a private method of an abstract class, on an object of a class under it: it is selected itself -/
theorem sel_sub {C : String} {y y2 : MethodName} {s : State} {args : Array Value} (hy : y.cls ≠ "java/lang/invoke/MethodHandle" ∧ y.cls ≠ "java/lang/invoke/VarHandle") (h2 : (Cond.selects C y2 y2).before args s = true) (hc : y2.cls = y.cls)
    (hpriv : (Cond.privateMethod y).before args s = true) (hinst : (Cond.instanceMethod y).before args s = true) : (Cond.selects C y y).before args s = true := by
  obtain ⟨c, r, m2, q1, -, q3, -, kP, hk, hni⟩ := Cond.selects_spec h2
  obtain ⟨mk, methM, hnamed, hmethM, -, -⟩ := Cond.instanceMethod_spec hinst
  have hfound : s.methodFound? y.cls y.name y.desc = some mk := State.methodFound?_of_named hnamed hy
  have e2 := findClass_of_methodNamed q3
  rw [hc] at e2
  have e : mk.cls = m2.cls := Option.some.inj ((findClass_of_methodNamed hnamed).symm.trans e2)
  have hsel : selectMethod {} s.vm c mk = .method mk := selectMethod_private hmethM (Cond.privateMethod_at hpriv mk methM hnamed hmethM)
  simp only [Cond.before, Cond.holds, Cond.value, q1, hfound, hnamed, hsel, e, hk]
  simp; exact hni
def rp_ps : List (String × MethodName) := [("BaulkHall$BoardRoll", ⟨"BaulkHall$Roll", "isSomeRolling", "()Z"⟩), ("BaulkHall$BoardRoll", ⟨"BaulkHall$Roll", "isRolling", "(I)Z"⟩), ("BaulkHall$BoardRoll", ⟨"BaulkHall$Roll", "act", "(I)V"⟩), ("BaulkHall$BoardRoll", ⟨"BaulkHall$Roll", "meet", "(II)V"⟩), ("BaulkHall$BoardRoll", ⟨"BaulkHall$Roll", "roll", "(II)V"⟩), ("BaulkHall$PairsRoll", ⟨"BaulkHall$Roll", "isSomeRolling", "()Z"⟩), ("BaulkHall$PairsRoll", ⟨"BaulkHall$Roll", "isRolling", "(I)Z"⟩), ("BaulkHall$PairsRoll", ⟨"BaulkHall$Roll", "act", "(I)V"⟩), ("BaulkHall$PairsRoll", ⟨"BaulkHall$Roll", "meet", "(II)V"⟩), ("BaulkHall$PairsRoll", ⟨"BaulkHall$Roll", "roll", "(II)V"⟩)]
def lw_tb2 : List Cond := lw_tbl ++ rp_ps.map (fun q => Cond.selects q.1 q.2 q.2)
theorem tb2_ok {args : Array Value} {s : State} (h : ∀ w ∈ lw_tbl, w.before args s = true) : ∀ w ∈ lw_tb2, w.before args s = true := by
  intro w hw
  rcases List.mem_append.mp hw with hw | hw
  · exact h w hw
  · have k0 : Cond.selects "BaulkHall$BoardRoll" ⟨"BaulkHall$Roll", "run", "([III)V"⟩ ⟨"BaulkHall$Roll", "run", "([III)V"⟩ ∈ lw_tbl := List.mem_of_getElem? (i := 612) (by decide +kernel)
    have k4 : Cond.selects "BaulkHall$PairsRoll" ⟨"BaulkHall$Roll", "run", "([III)V"⟩ ⟨"BaulkHall$Roll", "run", "([III)V"⟩ ∈ lw_tbl := List.mem_of_getElem? (i := 613) (by decide +kernel)
    obtain ⟨q, hq, rfl⟩ := List.mem_map.mp hw
    simp only [rp_ps, List.mem_cons, List.not_mem_nil, or_false] at hq
    rcases hq with rfl | rfl | rfl | rfl | rfl | rfl | rfl | rfl | rfl | rfl
    · exact sel_sub ⟨by decide, by decide⟩ (h _ k0) rfl (h _ (List.mem_of_getElem? (i := 629) (by decide +kernel))) (h _ (List.mem_of_getElem? (i := 630) (by decide +kernel)))
    · exact sel_sub ⟨by decide, by decide⟩ (h _ k0) rfl (h _ (List.mem_of_getElem? (i := 633) (by decide +kernel))) (h _ (List.mem_of_getElem? (i := 634) (by decide +kernel)))
    · exact sel_sub ⟨by decide, by decide⟩ (h _ k0) rfl (h _ (List.mem_of_getElem? (i := 637) (by decide +kernel))) (h _ (List.mem_of_getElem? (i := 638) (by decide +kernel)))
    · exact sel_sub ⟨by decide, by decide⟩ (h _ k0) rfl (h _ (List.mem_of_getElem? (i := 673) (by decide +kernel))) (h _ (List.mem_of_getElem? (i := 674) (by decide +kernel)))
    · exact sel_sub ⟨by decide, by decide⟩ (h _ k0) rfl (h _ (List.mem_of_getElem? (i := 677) (by decide +kernel))) (h _ (List.mem_of_getElem? (i := 678) (by decide +kernel)))
    · exact sel_sub ⟨by decide, by decide⟩ (h _ k4) rfl (h _ (List.mem_of_getElem? (i := 629) (by decide +kernel))) (h _ (List.mem_of_getElem? (i := 630) (by decide +kernel)))
    · exact sel_sub ⟨by decide, by decide⟩ (h _ k4) rfl (h _ (List.mem_of_getElem? (i := 633) (by decide +kernel))) (h _ (List.mem_of_getElem? (i := 634) (by decide +kernel)))
    · exact sel_sub ⟨by decide, by decide⟩ (h _ k4) rfl (h _ (List.mem_of_getElem? (i := 637) (by decide +kernel))) (h _ (List.mem_of_getElem? (i := 638) (by decide +kernel)))
    · exact sel_sub ⟨by decide, by decide⟩ (h _ k4) rfl (h _ (List.mem_of_getElem? (i := 673) (by decide +kernel))) (h _ (List.mem_of_getElem? (i := 674) (by decide +kernel)))
    · exact sel_sub ⟨by decide, by decide⟩ (h _ k4) rfl (h _ (List.mem_of_getElem? (i := 677) (by decide +kernel))) (h _ (List.mem_of_getElem? (i := 678) (by decide +kernel)))
def BW : List Cond := lw_tb2.filter goodWord
theorem bw_i {w : Cond} (i : Nat) (h : lw_tb2[i]? = some w) (g : goodWord w = true) : w ∈ BW := List.mem_filter.mpr ⟨List.mem_of_getElem? h, g⟩
theorem bw_in {w : Cond} (h : w ∈ lw_tb2) (g : goodWord w = true) : w ∈ BW := List.mem_filter.mpr ⟨h, g⟩
theorem bw_good : ∀ w ∈ BW, (w.onTables && w.keeps) = true ∨ ∃ ty, w = .arrayClass ty := fun w h => good_of_word (List.mem_filter.mp h).2
def XW : List Cond := [Cond.arrayOver (FieldType.object "BaulkHall$Table"), Cond.arrayOver (FieldType.object "BaulkHall$Cue"), Cond.arrayOver (FieldType.object "BaulkHall$Frame"), Cond.arrayOver (FieldType.object "BaulkHall$Rental"), Cond.arrayOver (FieldType.object "BaulkHall$Stay"), Cond.arrayOver (FieldType.object "BaulkHall$Loan"), Cond.methodLinkNest "BaulkHall" 54 ⟨"BaulkHall$BoardRoll", "<init>", "()V"⟩ "BaulkHall", Cond.methodLinkNest "BaulkHall$BoardRoll" 3 ⟨"BaulkHall$Roll", "<init>", "()V"⟩ "BaulkHall", Cond.methodLinkNest "BaulkHall" 61 ⟨"BaulkHall$PairsRoll", "<init>", "()V"⟩ "BaulkHall", Cond.methodLinkNest "BaulkHall$PairsRoll" 3 ⟨"BaulkHall$Roll", "<init>", "()V"⟩ "BaulkHall", Cond.methodLinkNest "BaulkHall" 69 ⟨"BaulkHall$Table", "<init>", "()V"⟩ "BaulkHall", Cond.methodLinkNest "BaulkHall" 70 ⟨"BaulkHall$Cue", "<init>", "()V"⟩ "BaulkHall", Cond.castable "java/lang/IllegalArgumentException" "java/lang/IllegalArgumentException", Cond.declares ⟨"java/lang/RuntimeException", "<init>", "()V"⟩, Cond.declares ⟨"java/lang/RuntimeException", "<init>", "(Ljava/lang/String;)V"⟩, Cond.declares ⟨"java/lang/Exception", "<init>", "()V"⟩, Cond.declares ⟨"java/lang/Exception", "<init>", "(Ljava/lang/String;)V"⟩, Cond.declares ⟨"java/lang/Throwable", "<init>", "()V"⟩, Cond.declares ⟨"java/lang/Throwable", "<init>", "(Ljava/lang/String;)V"⟩, Cond.castable "java/lang/IndexOutOfBoundsException" "java/lang/IndexOutOfBoundsException", Cond.castable "java/lang/IllegalStateException" "java/lang/IllegalStateException", Cond.fieldLinkNest "BaulkHall$Frame" 9 "BaulkHall" "SPOTS" "[I" "BaulkHall", Cond.castable "[I" "java/lang/Cloneable", Cond.declares ⟨"BaulkHall$Roll", "lay", "()V"⟩, Cond.methodLinkNest "BaulkHall$Roll" 47 ⟨"BaulkHall", "cellBeside", "(II)I"⟩ "BaulkHall", Cond.methodLinkNest "BaulkHall$Roll" 51 ⟨"BaulkHall", "turnedBack", "(II)I"⟩ "BaulkHall", Cond.declares ⟨"BaulkHall$Roll", "ballBeside", "(II)I"⟩, Cond.methodLinkNest "BaulkHall$BoardRoll" 22 ⟨"BaulkHall", "cellBeside", "(II)I"⟩ "BaulkHall", Cond.fieldLinkNest "BaulkHall$PairsRoll" 19 "BaulkHall" "COLUMN_STEPS" "[I" "BaulkHall", Cond.fieldLinkNest "BaulkHall$PairsRoll" 22 "BaulkHall" "ROW_STEPS" "[I" "BaulkHall", Cond.methodLinkNest "BaulkHall$Roll" 64 ⟨"BaulkHall", "isPocket", "(I)Z"⟩ "BaulkHall", Cond.declares ⟨"BaulkHall$Roll", "note", "(III)V"⟩, Cond.methodLinkNest "BaulkHall$Frame" 120 ⟨"BaulkHall", "isPocket", "(I)Z"⟩ "BaulkHall", Cond.methodLinkNest "BaulkHall$Frame" 126 ⟨"BaulkHall", "cellBeside", "(II)I"⟩ "BaulkHall"]
def sTx : List (String × Nat × String) := [("BaulkHall", 295, "out of range"), ("BaulkHall", 299, "no such table"), ("BaulkHall", 297, "no such customer"), ("BaulkHall", 97, "the table is not to be had, or the customer rents one"), ("BaulkHall", 117, "the table is not rented"), ("BaulkHall", 123, "the table is closed"), ("BaulkHall", 129, "the table is open"), ("BaulkHall", 134, "the hall knows no later minute"), ("BaulkHall", 142, "a frame has two players"), ("BaulkHall", 148, "no more frames can be begun"), ("BaulkHall", 305, "the table is closed or has a frame"), ("BaulkHall", 310, "neither player rents the table"), ("BaulkHall", 303, "no such frame"), ("BaulkHall", 171, "the frame does not wait"), ("BaulkHall", 189, "the frame is on no table"), ("BaulkHall", 301, "no such cue"), ("BaulkHall", 229, "the cue is lent, or the customer has one"), ("BaulkHall", 243, "the cue is not lent"), ("BaulkHall", 254, "the cue is lent"), ("BaulkHall", 270, "no such ball")]
def nSt : Nat → String := fun i => match i with
  | 0 => "SPOTS"
  | 1 => "POCKETS"
  | 2 => "COLUMN_STEPS"
  | _ => "ROW_STEPS"
theorem xw_moved {s U : State} (hW : s.WarmedH U.vm) (h : ∀ w ∈ XW, va_Nw w s) : ∀ w ∈ XW, va_Nw w U := by
  intro w hw
  have hs := h w hw
  simp only [XW, List.mem_cons, List.not_mem_nil, or_false] at hw
  rcases hw with rfl | rfl | rfl | rfl | rfl | rfl | rfl | rfl | rfl | rfl | rfl | rfl | rfl | rfl | rfl | rfl | rfl | rfl | rfl | rfl | rfl | rfl | rfl | rfl | rfl | rfl | rfl | rfl | rfl | rfl | rfl | rfl | rfl | rfl <;> first | exact va_Nw.warmM hW hs | exact va_Nw.warmF hW hs | exact va_Nw.warmC hW hs | exact va_Nw.warmD hW hs | exact va_AO.moved hW.alike hs
theorem xw_use {U : State} {args : Array Value} (h : ∀ w ∈ XW, va_Nw w U) : ∀ w ∈ XW, w.before args U = true := by
  intro w hw
  have hs := h w hw
  simp only [XW, List.mem_cons, List.not_mem_nil, or_false] at hw
  rcases hw with rfl | rfl | rfl | rfl | rfl | rfl | rfl | rfl | rfl | rfl | rfl | rfl | rfl | rfl | rfl | rfl | rfl | rfl | rfl | rfl | rfl | rfl | rfl | rfl | rfl | rfl | rfl | rfl | rfl | rfl | rfl | rfl | rfl | rfl <;> first | exact va_tabs rfl rfl hs | exact hs
-- ===== HEAP STATES =====
/-- addresses and kinds; int fields and reference fields by class, slot and address; arrays: length, ints, longs, references -/
abbrev HS : Type := (List Nat × (Nat → Nat)) × ((Nat → Nat → Nat → Int32) × (Nat → Nat → Nat → Option Nat)) × ((Nat → Nat) × (Nat → Nat → Int32) × (Nat → Nat → Int64) × (Nat → Nat → Option Nat))
def xL (X : HS) : List Nat := X.1.1
def xK (X : HS) : Nat → Nat := X.1.2
def xI (X : HS) : Nat → Nat → Nat → Int32 := X.2.1.1
def xR (X : HS) : Nat → Nat → Nat → Option Nat := X.2.1.2
def xn (X : HS) : Nat → Nat := X.2.2.1
def xA (X : HS) : Nat → Nat → Int32 := X.2.2.2.1
def xJ (X : HS) : Nat → Nat → Int64 := X.2.2.2.2.1
def xP (X : HS) : Nat → Nat → Option Nat := X.2.2.2.2.2
def u3 {α : Type} (f : Nat → Nat → Nat → α) (c k a : Nat) (v : α) : Nat → Nat → Nat → α := fun c' k' a' => if c' = c ∧ k' = k ∧ a' = a then v else f c' k' a'
def u2 {α : Type} (f : Nat → Nat → α) (a i : Nat) (v : α) : Nat → Nat → α := fun a' i' => if a' = a ∧ i' = i then v else f a' i'
def sI (X : HS) (c k a : Nat) (v : Int32) : HS := (X.1, (u3 (xI X) c k a v, xR X), X.2.2)
def sR (X : HS) (c k a : Nat) (v : Option Nat) : HS := (X.1, (xI X, u3 (xR X) c k a v), X.2.2)
def sA (X : HS) (a i : Nat) (v : Int32) : HS := (X.1, X.2.1, (xn X, u2 (xA X) a i v, xJ X, xP X))
def sJ (X : HS) (a i : Nat) (v : Int64) : HS := (X.1, X.2.1, (xn X, xA X, u2 (xJ X) a i v, xP X))
def sP (X : HS) (a i : Nat) (v : Option Nat) : HS := (X.1, X.2.1, (xn X, xA X, xJ X, u2 (xP X) a i v))
/-- a new cell of kind kd: all that is told of it is told anew -/
def nX (X : HS) (q kd n : Nat) (f : Nat → Int32) : HS := ((xL X ++ [q], va_up (xK X) q kd), (fun c' k a => if a = q then 0 else xI X c' k a, fun c' k a => if a = q then none else xR X c' k a), (va_up (xn X) q n, va_up (xA X) q f, va_up (xJ X) q (fun _ => 0), va_up (xP X) q (fun _ => none)))
/-- a new object, its fields 0 and null; a new array of ints (booleans), of longs, of references -/
def nO (X : HS) (q c : Nat) : HS := nX X q c 0 (fun _ => 0)
def nA (X : HS) (q kd n : Nat) (f : Nat → Int32) : HS := nX X q kd n f
def nJ (X : HS) (q kd n : Nat) : HS := nX X q kd n (fun _ => 0)
def nP (X : HS) (q kd n : Nat) : HS := nX X q kd n (fun _ => 0)
-- ===== CLASSES =====
def nf : Nat → Nat := fun c => match c with
  | 0 => 7
  | 1 => 2
  | 2 => 11
  | 3 => 3
  | 4 => 6
  | 5 => 5
  | 6 => 3
  | 7 => 5
  | 8 => 16
  | 9 => 26
  | _ => 0
def ft : Nat → Nat → FieldType := fun c => match c with
  | 0 => tyX0
  | 1 => tyX1
  | 2 => tyX2
  | 3 => tyX3
  | 4 => tyX4
  | 5 => tyX5
  | 6 => tyX7
  | 7 => tyX8
  | 8 => tyX9
  | _ => tyX10
def rf (c k : Nat) : Bool := match ft c k with
  | .int => false
  | .boolean => false
  | _ => true
def gv (X : HS) (c k a : Nat) : Value := if rf c k = true then va_rf (xR X c k a) else .int (xI X c k a)
def fl (X : HS) (c a : Nat) : List Value := (List.range (nf c)).map (fun k => gv X c k a)
def ce (cy : Nat → ClassId) (X : HS) (a : Nat) : va_E := if xK X a < 10 then .inr (xK X a, fl X (xK X a) a) else .inl (cy (xK X a), xn X a, if xK X a < 12 then .inl (xA X a) else if xK X a = 18 then .inr (.inl (xJ X a)) else .inr (.inr (.inr (.inr (xP X a)))))
def eC : Nat → String := fun k => match k with
  | 12 => "BaulkHall$Cue"
  | 13 => "BaulkHall$Frame"
  | 14 => "BaulkHall$Loan"
  | 15 => "BaulkHall$Rental"
  | 16 => "BaulkHall$Stay"
  | _ => "BaulkHall$Table"
def tyL (cy : Nat → ClassId) : List (ClassId × FieldType) := [(cy 10, .int), (cy 11, .boolean), (cy 12, .object (eC 12)), (cy 13, .object (eC 13)), (cy 14, .object (eC 14)), (cy 15, .object (eC 15)), (cy 16, .object (eC 16)), (cy 17, .object (eC 17)), (cy 18, .long)]
/-- what the tables say of each class -/
def clOk (c : Nat) : Prop := ∃ (C : String) (T : u_T), vwCl[c]? = some (C, T, nf c) ∧ (∀ w ∈ u_ws C T (nf c), w ∈ BW) ∧ (∀ k, k < nf c → parseFieldDescriptor (T k).2.2.1 = some (ft c k)) ∧ (∀ a, a < nf c → ∀ b, b < nf c → a ≠ b → (T a).2.1 ≠ (T b).2.1)
-- ===== WHAT HOLDS THROUGHOUT =====
def xIO : String := "java/lang/IndexOutOfBoundsException"
def xIS : String := "java/lang/IllegalStateException"
def xIA : String := "java/lang/IllegalArgumentException"
def nCL : List (String × String) := [(xIS, xIO), (xIS, xIA), (xIA, xIO)]
abbrev GTy : Type := Launch × va_G × (Nat → ClassId) × Nat × (Nat → Nat) × (Nat → Nat × Nat × (Nat → Int32))
def gl (Γ : GTy) : Launch := Γ.1
def gD (Γ : GTy) : va_G := Γ.2.1
def gc (Γ : GTy) : Nat → ClassId := Γ.2.2.1
def gb (Γ : GTy) : Nat := Γ.2.2.2.1
def gs (Γ : GTy) : Nat → Nat := Γ.2.2.2.2.1
def gt (Γ : GTy) : Nat → Nat × Nat × (Nat → Int32) := Γ.2.2.2.2.2
def gA (Γ : GTy) : Nat → Prop := fun q => gb Γ ≤ q
/-- of a state U -/
def GF (Γ : GTy) (U : State) : Prop :=
  va_K (gD Γ) vwCl (tyL (gc Γ)) U ∧ (∀ w ∈ XW, va_Nw w U) ∧ (∀ i, i < 5 → va_X (gt Γ i).1 (gt Γ i).2.1 (gt Γ i).2.2 U U.heap ∧ (gt Γ i).1 < gb Γ) ∧
  (∀ i, i < 4 → va_Z "BaulkHall" (nSt i) "[I" (.ref (gt Γ i).1) (gA Γ) U U.heap ∧ ∃ cell : Cell, U.heap[(gt Γ i).1]? = some cell ∧ U.vm.findClass "[I" = some cell.cls) ∧ (∀ (i : Nat) (q : String × Nat × String), sTx[i]? = some q → vk_R q.1 q.2.1 q.2.2 (gs Γ i) U) ∧
  (vx_Zq Bundle.tN "UNASSIGNED_STACK" Bundle.steD (gA Γ) U U.heap ∧ vx_Zq Bundle.tN "SUPPRESSED_SENTINEL" Bundle.listD (gA Γ) U U.heap ∧ (∀ q ∈ nCL, va_Nc q.1 q.2 U) ∧ (gl Γ).stackTraces = false) ∧ gb Γ ≤ U.heap.size
theorem GF.moved {Γ : GTy} {s U : State} (h : GF Γ s) (hW : s.WarmedH U.vm) (hz : gb Γ ≤ U.heap.size) (hq : ∀ q : Nat, q < s.heap.size → ¬ gA Γ q → U.heap[q]? = s.heap[q]?) : GF Γ U := by
  obtain ⟨h1, h2, h3, h4, h5, ⟨h6, h7, h9, h10⟩, h8⟩ := h
  refine ⟨va_K.moved hW.alike h1, xw_moved hW h2, fun i hi => ⟨?_, (h3 i hi).2⟩, fun i hi => ⟨va_Z.moved hW.alike ((h4 i hi).1.kept hq), ?_⟩, fun i q hi => vk_R.warm hW (h5 i q hi), ⟨vx_Zq.moved hW.alike (h6.kept hq), vx_Zq.moved hW.alike (h7.kept hq), fun q hm => va_Nc.moved hW.alike (h9 q hm), h10⟩, hz⟩
  rotate_left
  · obtain ⟨cell, e1, e2⟩ := (h4 i hi).2
    refine ⟨cell, ?_, by rw [hW.alike.findClass]; exact e2⟩
    rw [hq _ (Nat.lt_of_lt_of_le (h3 i (by omega)).2 h8) (Nat.not_le.mpr (h3 i (by omega)).2)]
    exact e1
  refine va_X.moved hW.alike ((h3 i hi).1.kept (hq _ (Nat.lt_of_lt_of_le (h3 i hi).2 h8) ?_))
  exact Nat.not_le.mpr (h3 i hi).2
/-- the heap holds the state X -/
def Rp (Γ : GTy) (X : HS) (H : Heap) : Prop := va_P (gD Γ) vwCl (va_pl (xL X) (ce (gc Γ) X)) H ∧ va_D (gA Γ) (va_pl (xL X) (ce (gc Γ) X)) ∧ ∀ a, a ∉ xL X → xK X a = 99
theorem Rp.mem {Γ : GTy} {X : HS} {H : Heap} (h : Rp Γ X H) {a : Nat} (hk : xK X a ≠ 99) : a ∈ xL X := by
  by_cases q : a ∈ xL X
  · exact q
  · exact absurd (h.2.2 a q) hk
-- ===== METHODS =====
/-- name, code, locals, result, handlers, depth, cells, slots, whether it makes cells of the state -/
abbrev MTy : Type := MethodName × ByteArray × Nat × Option FieldType × List (Nat × Nat × Nat × Nat) × Nat × Nat × Nat × Bool
def mN (μ : MTy) : MethodName := μ.1
def mC (μ : MTy) : ByteArray := μ.2.1
def mL (μ : MTy) : Nat := μ.2.2.1
def mR (μ : MTy) : Option FieldType := μ.2.2.2.1
def mH (μ : MTy) : List (Nat × Nat × Nat × Nat) := μ.2.2.2.2.1
def mD (μ : MTy) : Nat := μ.2.2.2.2.2.1
def mM (μ : MTy) : Nat := μ.2.2.2.2.2.2.1
def mS (μ : MTy) : Nat := μ.2.2.2.2.2.2.2.1
def mA (μ : MTy) : Bool := μ.2.2.2.2.2.2.2.2
def rm (μ : MTy) : Room := { frames := mD μ, cells := mM μ, slots := mS μ, locals := 36 * mD μ }
/-- at a method's frame -/
def Cx (Γ : GTy) (μ : MTy) (p : Program) (s : State) (m : MethodId) (args : Array Value) (meth : Method) (c : Code) : Prop :=
  p.tables.exec = Jvm.exec ∧ c.code = mC μ ∧ c.maxLocals = mL μ ∧ meth.sig.returnType = mR μ ∧ meth.locks = false ∧ c.exceptionTable.toList = tableOf (mH μ) ∧ s.vm.findClass (mN μ).cls = some m.cls ∧ meth.name = (mN μ).name ∧ (∀ w ∈ BW, w.before args s = true) ∧ GF Γ s
def LR (ls : Array Slot) (n : Nat) (L : List (Option Value)) : Prop := ls.size = n ∧ lv_wf ls ∧ ∀ (i : Nat) (v : Value), L[i]? = some (some v) → ls[i]? = some (.val v) ∧ v.category = 1
def lp (L : List (Option Value)) : List (Nat × Value) := (List.range L.length).filterMap (fun i => match L[i]? with
  | some (some v) => some (i, v)
  | _ => none)
theorem lp_mem {L : List (Option Value)} {q : Nat × Value} : q ∈ lp L ↔ L[q.1]? = some (some q.2) := by
  obtain ⟨i, v⟩ := q
  simp only [lp, List.mem_filterMap, List.mem_range]
  constructor
  · rintro ⟨j, hj, h⟩
    split at h
    next w hw => cases h; exact hw
    next => cases h
  · intro h
    refine ⟨i, (List.getElem?_eq_some_iff.mp h).1, ?_⟩
    simp only [h]
theorem LR.has {ls : Array Slot} {n : Nat} {L : List (Option Value)} (h : LR ls n L) : lv_has ls n (lp L) := ⟨h.1, h.2.1, fun q hq => (h.2.2 q.1 q.2 (lp_mem.mp hq)).1⟩
theorem LR.put {ls ls' : Array Slot} {n i : Nat} {v : Value} {L : List (Option Value)} (h : LR ls n L) (hv : v.category = 1) (h' : lv_has ls' n ((i, v) :: (lp L).filter (fun q => !(q.1 == i) && !(q.1 + 1 == i && q.2.category == 2)))) : LR ls' n (L.set i (some v)) := by
  refine ⟨h'.1, h'.2.1, fun j w hj => ?_⟩
  by_cases e : j = i
  · subst e
    rw [List.getElem?_set_self'] at hj
    cases hL : L[j]? with
    | none => rw [hL] at hj; simp at hj
    | some z =>
      rw [hL] at hj
      simp at hj
      subst hj
      exact ⟨h'.2.2 (j, v) List.mem_cons_self, hv⟩
  · rw [List.getElem?_set_ne (Ne.symm e)] at hj
    have hc := (h.2.2 j w hj).2
    refine ⟨h'.2.2 (j, w) (List.mem_cons_of_mem _ (List.mem_filter.mpr ⟨lp_mem.mpr hj, ?_⟩)), hc⟩
    simp [e, hc]
/-- THE JUDGEMENT: from pc, with locals L, stack st and heap state X, having made k.1 cells of k.2 slots, the method comes to Z -/
def J (Γ : GTy) (μ : MTy) (R : Room) (Z : List Frame → Array Value → State → State → Prop) (k : Nat × Nat) (pc : Nat) (L : List (Option Value)) (st : List Value) (X : HS) : Prop :=
  ∀ (p : Program) (e : Env) (s : State) (m : MethodId) (args : Array Value) (below : List Frame) (meth : Method) (c : Code) (H : Heap) (locs : List Loc) (ls : Array Slot),
    Cx Γ μ p s m args meth c → va_S (gA Γ) s.heap H locs → Rp Γ X H → LR ls (mL μ) L → W p (gl Γ) e R s m args below meth c H locs k.1 k.2 (Z below args s) (F0 m pc ls st)
/-- with an exception of class E thrown at pc -/
def JX (Γ : GTy) (μ : MTy) (R : Room) (Z : List Frame → Array Value → State → State → Prop) (E : String) (k : Nat × Nat) (pc : Nat) (L : List (Option Value)) (X : HS) : Prop :=
  ∀ (p : Program) (e : Env) (s : State) (m : MethodId) (args : Array Value) (below : List Frame) (meth : Method) (c : Code) (H : Heap) (locs : List Loc) (ls : Array Slot) (q : Nat) (x : Cell) (rest : List Value),
    Cx Γ μ p s m args meth c → va_S (gA Γ) s.heap H locs → Rp Γ X H → LR ls (mL μ) L → H[q]? = some x → x.vm = .none → s.vm.findClass E = some x.cls → vx_W p (gl Γ) e R s m args below meth c H locs k.1 k.2 (Z below args s) (F0 m pc ls rest) q
def Qo (Γ : GTy) (QV : Option Value → HS → Prop) : Array Value → State → Outcome → State → Prop := fun _ st o t => (∃ (v : Option Value) (X' : HS), o = .returned v ∧ QV v X' ∧ Rp Γ X' t.heap) ∧ va_F (gA Γ) st t
def Xo (Γ : GTy) (QX : String → HS → Prop) : String → State → State → Prop := fun E st t => ∃ X' : HS, QX E X' ∧ Rp Γ X' t.heap ∧ va_F (gA Γ) st t
/-- a method's end: returned with QV, or thrown with QX -/
def Zx (Γ : GTy) (μ : MTy) (QV : Option Value → HS → Prop) (QX : String → HS → Prop) : List Frame → Array Value → State → State → Prop := fun below args s => vx_MQ below (Qo Γ QV) (Xo Γ QX) args s (mM μ) (mS μ) (gA Γ)
/-- a method's end: returned with QV -/
def Zn (Γ : GTy) (μ : MTy) (QV : Option Value → HS → Prop) : List Frame → Array Value → State → State → Prop := fun below args s => MQ below (Qo Γ QV) args s (mM μ) (mS μ) (gA Γ)
def St (Γ : GTy) (X : HS) : State → Prop := fun U => GF Γ U ∧ Rp Γ X U.heap
/-- CONTRACTS: may throw; never throws; may throw, with a table of handlers -/
def Ct (Γ : GTy) (ν : MTy) (as : List Value) (X : HS) (QV : Option Value → HS → Prop) (QX : String → HS → Prop) : Prop :=
  vx_Met (gl Γ) (mN ν) (.code (mN ν) (mC ν) (mL ν) (mR ν) :: BW) (rm ν) (va_Pc as (St Γ X)) (Qo Γ QV) (Xo Γ QX) (mM ν) (mS ν) (gA Γ)
def Cn (Γ : GTy) (ν : MTy) (as : List Value) (X : HS) (QV : Option Value → HS → Prop) : Prop :=
  Met (gl Γ) (mN ν) (.code (mN ν) (mC ν) (mL ν) (mR ν) :: BW) (rm ν) (va_Pc as (St Γ X)) (Qo Γ QV) (mM ν) (mS ν) (gA Γ)
def Cw (Γ : GTy) (ν : MTy) (as : List Value) (X : HS) (QV : Option Value → HS → Prop) (QX : String → HS → Prop) : Prop :=
  vx_Met (gl Γ) (mN ν) (.codeWith (mN ν) (mC ν) (mL ν) (mR ν) (mH ν) :: BW) (rm ν) (va_Pc as (St Γ X)) (Qo Γ QV) (Xo Γ QX) (mM ν) (mS ν) (gA Γ)
end
section
section RW
variable {Γ : GTy} {μ : MTy} {R : Room} {Z : List Frame → Array Value → State → State → Prop} {k : Nat × Nat} {pc : Nat} {L : List (Option Value)} {st : List Value} {X : HS}
theorem J_iconst {n : Int} {v : Int32} (hd : decode (mC μ) pc = .ok (.iconst n, 1)) (hv : Int32.ofInt n = v) (kk : J Γ μ R Z k (pc + 1) L (.int v :: st) X) : J Γ μ R Z k pc L st X :=
  fun p e s m args below meth c H locs ls C S P Lr => lv_iconst C.1 C.2.1 hd hv (kk p e s m args below meth c H locs ls C S P Lr)
theorem J_bipush {n : Int} {v : Int32} (hd : decode (mC μ) pc = .ok (.bipush n, 2)) (hv : (Int8.ofInt n).toInt32 = v) (kk : J Γ μ R Z k (pc + 2) L (.int v :: st) X) : J Γ μ R Z k pc L st X :=
  fun p e s m args below meth c H locs ls C S P Lr => lv_bipush C.1 C.2.1 hd hv (kk p e s m args below meth c H locs ls C S P Lr)
theorem J_sipush {n : Int} {v : Int32} (hd : decode (mC μ) pc = .ok (.sipush n, 3)) (hv : (Int16.ofInt n).toInt32 = v) (kk : J Γ μ R Z k (pc + 3) L (.int v :: st) X) : J Γ μ R Z k pc L st X :=
  fun p e s m args below meth c H locs ls C S P Lr => lv_sipush C.1 C.2.1 hd hv (kk p e s m args below meth c H locs ls C S P Lr)
theorem J_lconst {n : Fin 2} {v : Int64} (hd : decode (mC μ) pc = .ok (.lconst n, 1)) (hv : Int64.ofNat (n : Nat) = v) (kk : J Γ μ R Z k (pc + 1) L (.long v :: st) X) : J Γ μ R Z k pc L st X :=
  fun p e s m args below meth c H locs ls C S P Lr => lv_lconst C.1 C.2.1 hd hv (kk p e s m args below meth c H locs ls C S P Lr)
theorem J_null (hd : decode (mC μ) pc = .ok (.aconst_null, 1)) (kk : J Γ μ R Z k (pc + 1) L (.null :: st) X) : J Γ μ R Z k pc L st X :=
  fun p e s m args below meth c H locs ls C S P Lr => lv_null C.1 C.2.1 hd (kk p e s m args below meth c H locs ls C S P Lr)
theorem J_iload_n {n : Fin 4} {x : Int32} (hd : decode (mC μ) pc = .ok (.iload_n n, 1)) (hl : L[(n : Nat)]? = some (some (.int x))) (kk : J Γ μ R Z k (pc + 1) L (.int x :: st) X) : J Γ μ R Z k pc L st X :=
  fun p e s m args below meth c H locs ls C S P Lr => lv_iload_n C.1 C.2.1 hd rfl (Lr.2.2 _ _ hl).1 (kk p e s m args below meth c H locs ls C S P Lr)
theorem J_iload {i : Nat} {x : Int32} (hd : decode (mC μ) pc = .ok (.iload i, 2)) (hl : L[i]? = some (some (.int x))) (kk : J Γ μ R Z k (pc + 2) L (.int x :: st) X) : J Γ μ R Z k pc L st X :=
  fun p e s m args below meth c H locs ls C S P Lr => lv_iload C.1 C.2.1 hd (Lr.2.2 _ _ hl).1 (kk p e s m args below meth c H locs ls C S P Lr)
theorem J_aload_n {n : Fin 4} {x : Nat} (hd : decode (mC μ) pc = .ok (.aload_n n, 1)) (hl : L[(n : Nat)]? = some (some (.ref x))) (kk : J Γ μ R Z k (pc + 1) L (.ref x :: st) X) : J Γ μ R Z k pc L st X :=
  fun p e s m args below meth c H locs ls C S P Lr => lv_aload_n C.1 C.2.1 hd rfl (Lr.2.2 _ _ hl).1 (kk p e s m args below meth c H locs ls C S P Lr)
theorem J_aload {i : Nat} {x : Nat} (hd : decode (mC μ) pc = .ok (.aload i, 2)) (hl : L[i]? = some (some (.ref x))) (kk : J Γ μ R Z k (pc + 2) L (.ref x :: st) X) : J Γ μ R Z k pc L st X :=
  fun p e s m args below meth c H locs ls C S P Lr => lv_aload C.1 C.2.1 hd (Lr.2.2 _ _ hl).1 (kk p e s m args below meth c H locs ls C S P Lr)
theorem J_aload_nN {n : Fin 4} (hd : decode (mC μ) pc = .ok (.aload_n n, 1)) (hl : L[(n : Nat)]? = some (some .null)) (kk : J Γ μ R Z k (pc + 1) L (.null :: st) X) : J Γ μ R Z k pc L st X :=
  fun p e s m args below meth c H locs ls C S P Lr => lv_aload_nN C.1 C.2.1 hd rfl (Lr.2.2 _ _ hl).1 (kk p e s m args below meth c H locs ls C S P Lr)
theorem J_aloadN {i : Nat} (hd : decode (mC μ) pc = .ok (.aload i, 2)) (hl : L[i]? = some (some .null)) (kk : J Γ μ R Z k (pc + 2) L (.null :: st) X) : J Γ μ R Z k pc L st X :=
  fun p e s m args below meth c H locs ls C S P Lr => lv_aloadN C.1 C.2.1 hd (Lr.2.2 _ _ hl).1 (kk p e s m args below meth c H locs ls C S P Lr)
theorem J_istore_n {n : Fin 4} {x : Int32} (hd : decode (mC μ) pc = .ok (.istore_n n, 1)) (hn : (n : Nat) < mL μ) (kk : J Γ μ R Z k (pc + 1) (L.set (n : Nat) (some (.int x))) st X) : J Γ μ R Z k pc L (.int x :: st) X :=
  fun p e s m args below meth c H locs ls C S P Lr => lv_istore_n C.1 C.2.1 hd rfl Lr.has hn rfl (fun ls' h' => kk p e s m args below meth c H locs ls' C S P (Lr.put rfl h'))
theorem J_istore {i : Nat} {x : Int32} (hd : decode (mC μ) pc = .ok (.istore i, 2)) (hn : i < mL μ) (kk : J Γ μ R Z k (pc + 2) (L.set i (some (.int x))) st X) : J Γ μ R Z k pc L (.int x :: st) X :=
  fun p e s m args below meth c H locs ls C S P Lr => lv_istore C.1 C.2.1 hd Lr.has hn rfl (fun ls' h' => kk p e s m args below meth c H locs ls' C S P (Lr.put rfl h'))
theorem J_astore_n {n : Fin 4} {x : Nat} (hd : decode (mC μ) pc = .ok (.astore_n n, 1)) (hn : (n : Nat) < mL μ) (kk : J Γ μ R Z k (pc + 1) (L.set (n : Nat) (some (.ref x))) st X) : J Γ μ R Z k pc L (.ref x :: st) X :=
  fun p e s m args below meth c H locs ls C S P Lr => lv_astore_n C.1 C.2.1 hd rfl Lr.has hn rfl (fun ls' h' => kk p e s m args below meth c H locs ls' C S P (Lr.put rfl h'))
theorem J_astore {i : Nat} {x : Nat} (hd : decode (mC μ) pc = .ok (.astore i, 2)) (hn : i < mL μ) (kk : J Γ μ R Z k (pc + 2) (L.set i (some (.ref x))) st X) : J Γ μ R Z k pc L (.ref x :: st) X :=
  fun p e s m args below meth c H locs ls C S P Lr => lv_astore C.1 C.2.1 hd Lr.has hn rfl (fun ls' h' => kk p e s m args below meth c H locs ls' C S P (Lr.put rfl h'))
theorem J_astore_nN {n : Fin 4} (hd : decode (mC μ) pc = .ok (.astore_n n, 1)) (hn : (n : Nat) < mL μ) (kk : J Γ μ R Z k (pc + 1) (L.set (n : Nat) (some (.null))) st X) : J Γ μ R Z k pc L (.null :: st) X :=
  fun p e s m args below meth c H locs ls C S P Lr => lv_astore_nN C.1 C.2.1 hd rfl Lr.has hn rfl (fun ls' h' => kk p e s m args below meth c H locs ls' C S P (Lr.put rfl h'))
theorem J_astoreN {i : Nat} (hd : decode (mC μ) pc = .ok (.astore i, 2)) (hn : i < mL μ) (kk : J Γ μ R Z k (pc + 2) (L.set i (some (.null))) st X) : J Γ μ R Z k pc L (.null :: st) X :=
  fun p e s m args below meth c H locs ls C S P Lr => lv_astoreN C.1 C.2.1 hd Lr.has hn rfl (fun ls' h' => kk p e s m args below meth c H locs ls' C S P (Lr.put rfl h'))
theorem J_iinc {i : Nat} {n : Int} {x v : Int32} (hd : decode (mC μ) pc = .ok (.iinc i n, 3)) (hl : L[i]? = some (some (.int x))) (hv : x + Int32.ofInt n = v) (hn : i < mL μ) (kk : J Γ μ R Z k (pc + 3) (L.set i (some (.int v))) st X) : J Γ μ R Z k pc L st X := by
  intro p e s m args below meth c H locs ls C S P Lr
  obtain ⟨j, hj⟩ := List.getElem?_of_mem (lp_mem (q := (i, .int x)).mpr hl)
  exact lv_iinc C.1 C.2.1 hd Lr.has hj hv hn rfl (fun ls' h' => kk p e s m args below meth c H locs ls' C S P (Lr.put rfl h'))
theorem J_iadd {x y : Int32} (hd : decode (mC μ) pc = .ok (.iadd, 1)) (kk : J Γ μ R Z k (pc + 1) L (.int (x + y) :: st) X) : J Γ μ R Z k pc L (.int y :: .int x :: st) X :=
  fun p e s m args below meth c H locs ls C S P Lr => lv_iadd C.1 C.2.1 hd (kk p e s m args below meth c H locs ls C S P Lr)
theorem J_isub {x y : Int32} (hd : decode (mC μ) pc = .ok (.isub, 1)) (kk : J Γ μ R Z k (pc + 1) L (.int (x - y) :: st) X) : J Γ μ R Z k pc L (.int y :: .int x :: st) X :=
  fun p e s m args below meth c H locs ls C S P Lr => lv_isub C.1 C.2.1 hd (kk p e s m args below meth c H locs ls C S P Lr)
theorem J_imul {x y : Int32} (hd : decode (mC μ) pc = .ok (.imul, 1)) (kk : J Γ μ R Z k (pc + 1) L (.int (x * y) :: st) X) : J Γ μ R Z k pc L (.int y :: .int x :: st) X :=
  fun p e s m args below meth c H locs ls C S P Lr => lv_imul C.1 C.2.1 hd (kk p e s m args below meth c H locs ls C S P Lr)
theorem J_iand {x y : Int32} (hd : decode (mC μ) pc = .ok (.iand, 1)) (kk : J Γ μ R Z k (pc + 1) L (.int (x &&& y) :: st) X) : J Γ μ R Z k pc L (.int y :: .int x :: st) X :=
  fun p e s m args below meth c H locs ls C S P Lr => lv_iand C.1 C.2.1 hd (kk p e s m args below meth c H locs ls C S P Lr)
theorem J_ior {x y : Int32} (hd : decode (mC μ) pc = .ok (.ior, 1)) (kk : J Γ μ R Z k (pc + 1) L (.int (x ||| y) :: st) X) : J Γ μ R Z k pc L (.int y :: .int x :: st) X :=
  fun p e s m args below meth c H locs ls C S P Lr => lv_ior C.1 C.2.1 hd (kk p e s m args below meth c H locs ls C S P Lr)
theorem J_ishl {x y : Int32} (hd : decode (mC μ) pc = .ok (.ishl, 1)) (kk : J Γ μ R Z k (pc + 1) L (.int (x <<< (y &&& 31)) :: st) X) : J Γ μ R Z k pc L (.int y :: .int x :: st) X :=
  fun p e s m args below meth c H locs ls C S P Lr => lv_ishl C.1 C.2.1 hd (kk p e s m args below meth c H locs ls C S P Lr)
theorem J_ishr {x y : Int32} (hd : decode (mC μ) pc = .ok (.ishr, 1)) (kk : J Γ μ R Z k (pc + 1) L (.int (x >>> (y &&& 31)) :: st) X) : J Γ μ R Z k pc L (.int y :: .int x :: st) X :=
  fun p e s m args below meth c H locs ls C S P Lr => lv_ishr C.1 C.2.1 hd (kk p e s m args below meth c H locs ls C S P Lr)
theorem J_idiv {x y : Int32} (hd : decode (mC μ) pc = .ok (.idiv, 1)) (hne : ¬ y = 0) (kk : J Γ μ R Z k (pc + 1) L (.int (x / y) :: st) X) : J Γ μ R Z k pc L (.int y :: .int x :: st) X :=
  fun p e s m args below meth c H locs ls C S P Lr => lv_idiv C.1 C.2.1 hd hne (kk p e s m args below meth c H locs ls C S P Lr)
theorem J_irem {x y : Int32} (hd : decode (mC μ) pc = .ok (.irem, 1)) (hne : ¬ y = 0) (kk : J Γ μ R Z k (pc + 1) L (.int (x - x / y * y) :: st) X) : J Γ μ R Z k pc L (.int y :: .int x :: st) X :=
  fun p e s m args below meth c H locs ls C S P Lr => lv_irem C.1 C.2.1 hd hne (kk p e s m args below meth c H locs ls C S P Lr)
theorem J_ineg {x : Int32} (hd : decode (mC μ) pc = .ok (.ineg, 1)) (kk : J Γ μ R Z k (pc + 1) L (.int (-x) :: st) X) : J Γ μ R Z k pc L (.int x :: st) X :=
  fun p e s m args below meth c H locs ls C S P Lr => lv_ineg C.1 C.2.1 hd (kk p e s m args below meth c H locs ls C S P Lr)
theorem J_i2l {x : Int32} (hd : decode (mC μ) pc = .ok (.i2l, 1)) (kk : J Γ μ R Z k (pc + 1) L (.long x.toInt64 :: st) X) : J Γ μ R Z k pc L (.int x :: st) X :=
  fun p e s m args below meth c H locs ls C S P Lr => lv_i2l C.1 C.2.1 hd rfl (kk p e s m args below meth c H locs ls C S P Lr)
theorem J_lcmp {x y : Int64} (hd : decode (mC μ) pc = .ok (.lcmp, 1)) (kk : J Γ μ R Z k (pc + 1) L (.int (lg_cmp x y) :: st) X) : J Γ μ R Z k pc L (.long y :: .long x :: st) X :=
  fun p e s m args below meth c H locs ls C S P Lr => W.lcmp C.1 C.2.1 hd (kk p e s m args below meth c H locs ls C S P Lr)
theorem J_dup {v : Value} (hd : decode (mC μ) pc = .ok (.dup, 1)) (hv : v.category = 1) (kk : J Γ μ R Z k (pc + 1) L (v :: v :: st) X) : J Γ μ R Z k pc L (v :: st) X :=
  fun p e s m args below meth c H locs ls C S P Lr => lv_dup C.1 C.2.1 hd hv (kk p e s m args below meth c H locs ls C S P Lr)
theorem J_dup2 {v u : Value} (hd : decode (mC μ) pc = .ok (.dup2, 1)) (hv : v.category = 1) (hu : u.category = 1) (kk : J Γ μ R Z k (pc + 1) L (v :: u :: v :: u :: st) X) : J Γ μ R Z k pc L (v :: u :: st) X :=
  fun p e s m args below meth c H locs ls C S P Lr => lv_dup2_11 C.1 C.2.1 hd hv hu (kk p e s m args below meth c H locs ls C S P Lr)
theorem J_pop {v : Value} (hd : decode (mC μ) pc = .ok (.pop, 1)) (hv : v.category = 1) (kk : J Γ μ R Z k (pc + 1) L st X) : J Γ μ R Z k pc L (v :: st) X :=
  fun p e s m args below meth c H locs ls C S P Lr => lv_pop C.1 C.2.1 hd hv (kk p e s m args below meth c H locs ls C S P Lr)
theorem J_if_eq {x : Int32} {off : Int} {tgt : Nat} (hd : decode (mC μ) pc = .ok (.ifCond .eq off, 3)) (ht : (pc : Int) + off = (tgt : Int)) (kt : x = 0 → J Γ μ R Z k tgt L st X) (kf : ¬ x = 0 → J Γ μ R Z k (pc + 3) L st X) : J Γ μ R Z k pc L (.int x :: st) X :=
  fun p e s m args below meth c H locs ls C S P Lr => lv_if_eq C.1 C.2.1 hd ht (fun h => kt h p e s m args below meth c H locs ls C S P Lr) (fun h => kf h p e s m args below meth c H locs ls C S P Lr)
theorem J_icmp_eq {x y : Int32} {off : Int} {tgt : Nat} (hd : decode (mC μ) pc = .ok (.if_icmp .eq off, 3)) (ht : (pc : Int) + off = (tgt : Int)) (kt : x = y → J Γ μ R Z k tgt L st X) (kf : ¬ x = y → J Γ μ R Z k (pc + 3) L st X) : J Γ μ R Z k pc L (.int y :: .int x :: st) X :=
  fun p e s m args below meth c H locs ls C S P Lr => lv_icmp_eq C.1 C.2.1 hd ht (fun h => kt h p e s m args below meth c H locs ls C S P Lr) (fun h => kf h p e s m args below meth c H locs ls C S P Lr)
theorem J_if_ne {x : Int32} {off : Int} {tgt : Nat} (hd : decode (mC μ) pc = .ok (.ifCond .ne off, 3)) (ht : (pc : Int) + off = (tgt : Int)) (kt : ¬ x = 0 → J Γ μ R Z k tgt L st X) (kf : x = 0 → J Γ μ R Z k (pc + 3) L st X) : J Γ μ R Z k pc L (.int x :: st) X :=
  fun p e s m args below meth c H locs ls C S P Lr => lv_if_ne C.1 C.2.1 hd ht (fun h => kt h p e s m args below meth c H locs ls C S P Lr) (fun h => kf h p e s m args below meth c H locs ls C S P Lr)
theorem J_icmp_ne {x y : Int32} {off : Int} {tgt : Nat} (hd : decode (mC μ) pc = .ok (.if_icmp .ne off, 3)) (ht : (pc : Int) + off = (tgt : Int)) (kt : ¬ x = y → J Γ μ R Z k tgt L st X) (kf : x = y → J Γ μ R Z k (pc + 3) L st X) : J Γ μ R Z k pc L (.int y :: .int x :: st) X :=
  fun p e s m args below meth c H locs ls C S P Lr => lv_icmp_ne C.1 C.2.1 hd ht (fun h => kt h p e s m args below meth c H locs ls C S P Lr) (fun h => kf h p e s m args below meth c H locs ls C S P Lr)
theorem J_if_lt {x : Int32} {off : Int} {tgt : Nat} (hd : decode (mC μ) pc = .ok (.ifCond .lt off, 3)) (ht : (pc : Int) + off = (tgt : Int)) (kt : x < 0 → J Γ μ R Z k tgt L st X) (kf : ¬ x < 0 → J Γ μ R Z k (pc + 3) L st X) : J Γ μ R Z k pc L (.int x :: st) X :=
  fun p e s m args below meth c H locs ls C S P Lr => lv_if_lt C.1 C.2.1 hd ht (fun h => kt h p e s m args below meth c H locs ls C S P Lr) (fun h => kf h p e s m args below meth c H locs ls C S P Lr)
theorem J_icmp_lt {x y : Int32} {off : Int} {tgt : Nat} (hd : decode (mC μ) pc = .ok (.if_icmp .lt off, 3)) (ht : (pc : Int) + off = (tgt : Int)) (kt : x < y → J Γ μ R Z k tgt L st X) (kf : ¬ x < y → J Γ μ R Z k (pc + 3) L st X) : J Γ μ R Z k pc L (.int y :: .int x :: st) X :=
  fun p e s m args below meth c H locs ls C S P Lr => lv_icmp_lt C.1 C.2.1 hd ht (fun h => kt h p e s m args below meth c H locs ls C S P Lr) (fun h => kf h p e s m args below meth c H locs ls C S P Lr)
theorem J_if_ge {x : Int32} {off : Int} {tgt : Nat} (hd : decode (mC μ) pc = .ok (.ifCond .ge off, 3)) (ht : (pc : Int) + off = (tgt : Int)) (kt : 0 ≤ x → J Γ μ R Z k tgt L st X) (kf : ¬ 0 ≤ x → J Γ μ R Z k (pc + 3) L st X) : J Γ μ R Z k pc L (.int x :: st) X :=
  fun p e s m args below meth c H locs ls C S P Lr => lv_if_ge C.1 C.2.1 hd ht (fun h => kt h p e s m args below meth c H locs ls C S P Lr) (fun h => kf h p e s m args below meth c H locs ls C S P Lr)
theorem J_icmp_ge {x y : Int32} {off : Int} {tgt : Nat} (hd : decode (mC μ) pc = .ok (.if_icmp .ge off, 3)) (ht : (pc : Int) + off = (tgt : Int)) (kt : y ≤ x → J Γ μ R Z k tgt L st X) (kf : ¬ y ≤ x → J Γ μ R Z k (pc + 3) L st X) : J Γ μ R Z k pc L (.int y :: .int x :: st) X :=
  fun p e s m args below meth c H locs ls C S P Lr => lv_icmp_ge C.1 C.2.1 hd ht (fun h => kt h p e s m args below meth c H locs ls C S P Lr) (fun h => kf h p e s m args below meth c H locs ls C S P Lr)
theorem J_if_gt {x : Int32} {off : Int} {tgt : Nat} (hd : decode (mC μ) pc = .ok (.ifCond .gt off, 3)) (ht : (pc : Int) + off = (tgt : Int)) (kt : 0 < x → J Γ μ R Z k tgt L st X) (kf : ¬ 0 < x → J Γ μ R Z k (pc + 3) L st X) : J Γ μ R Z k pc L (.int x :: st) X :=
  fun p e s m args below meth c H locs ls C S P Lr => lv_if_gt C.1 C.2.1 hd ht (fun h => kt h p e s m args below meth c H locs ls C S P Lr) (fun h => kf h p e s m args below meth c H locs ls C S P Lr)
theorem J_icmp_gt {x y : Int32} {off : Int} {tgt : Nat} (hd : decode (mC μ) pc = .ok (.if_icmp .gt off, 3)) (ht : (pc : Int) + off = (tgt : Int)) (kt : y < x → J Γ μ R Z k tgt L st X) (kf : ¬ y < x → J Γ μ R Z k (pc + 3) L st X) : J Γ μ R Z k pc L (.int y :: .int x :: st) X :=
  fun p e s m args below meth c H locs ls C S P Lr => lv_icmp_gt C.1 C.2.1 hd ht (fun h => kt h p e s m args below meth c H locs ls C S P Lr) (fun h => kf h p e s m args below meth c H locs ls C S P Lr)
theorem J_if_le {x : Int32} {off : Int} {tgt : Nat} (hd : decode (mC μ) pc = .ok (.ifCond .le off, 3)) (ht : (pc : Int) + off = (tgt : Int)) (kt : x ≤ 0 → J Γ μ R Z k tgt L st X) (kf : ¬ x ≤ 0 → J Γ μ R Z k (pc + 3) L st X) : J Γ μ R Z k pc L (.int x :: st) X :=
  fun p e s m args below meth c H locs ls C S P Lr => lv_if_le C.1 C.2.1 hd ht (fun h => kt h p e s m args below meth c H locs ls C S P Lr) (fun h => kf h p e s m args below meth c H locs ls C S P Lr)
theorem J_icmp_le {x y : Int32} {off : Int} {tgt : Nat} (hd : decode (mC μ) pc = .ok (.if_icmp .le off, 3)) (ht : (pc : Int) + off = (tgt : Int)) (kt : x ≤ y → J Γ μ R Z k tgt L st X) (kf : ¬ x ≤ y → J Γ μ R Z k (pc + 3) L st X) : J Γ μ R Z k pc L (.int y :: .int x :: st) X :=
  fun p e s m args below meth c H locs ls C S P Lr => lv_icmp_le C.1 C.2.1 hd ht (fun h => kt h p e s m args below meth c H locs ls C S P Lr) (fun h => kf h p e s m args below meth c H locs ls C S P Lr)
theorem J_goto {off : Int} {tgt : Nat} (hd : decode (mC μ) pc = .ok (.goto off, 3)) (ht : (pc : Int) + off = (tgt : Int)) (kk : J Γ μ R Z k tgt L st X) : J Γ μ R Z k pc L st X :=
  fun p e s m args below meth c H locs ls C S P Lr => lv_goto C.1 C.2.1 hd ht (kk p e s m args below meth c H locs ls C S P Lr)
theorem J_ifnull_r {off : Int} {x : Nat} (hd : decode (mC μ) pc = .ok (.ifnull off, 3)) (kk : J Γ μ R Z k (pc + 3) L st X) : J Γ μ R Z k pc L (.ref x :: st) X :=
  fun p e s m args below meth c H locs ls C S P Lr => lv_ifnull C.1 C.2.1 hd (kk p e s m args below meth c H locs ls C S P Lr)
theorem J_ifnull_n {off : Int} {tgt : Nat} (hd : decode (mC μ) pc = .ok (.ifnull off, 3)) (ht : (pc : Int) + off = (tgt : Int)) (kk : J Γ μ R Z k tgt L st X) : J Γ μ R Z k pc L (.null :: st) X :=
  fun p e s m args below meth c H locs ls C S P Lr => lv_ifnullN C.1 C.2.1 hd ht (kk p e s m args below meth c H locs ls C S P Lr)
theorem J_ifnonnull_r {off : Int} {tgt : Nat} {x : Nat} (hd : decode (mC μ) pc = .ok (.ifnonnull off, 3)) (ht : (pc : Int) + off = (tgt : Int)) (kk : J Γ μ R Z k tgt L st X) : J Γ μ R Z k pc L (.ref x :: st) X :=
  fun p e s m args below meth c H locs ls C S P Lr => lv_ifnonnull C.1 C.2.1 hd ht (kk p e s m args below meth c H locs ls C S P Lr)
theorem J_ifnonnull_n {off : Int} (hd : decode (mC μ) pc = .ok (.ifnonnull off, 3)) (kk : J Γ μ R Z k (pc + 3) L st X) : J Γ μ R Z k pc L (.null :: st) X :=
  fun p e s m args below meth c H locs ls C S P Lr => lv_ifnonnullN C.1 C.2.1 hd (kk p e s m args below meth c H locs ls C S P Lr)
theorem J_tableIn {dflt lo hi : Int} {offs : Array Int} {len : Nat} {x : Int32} {off : Int} {tgt : Nat} (hd : decode (mC μ) pc = .ok (.tableswitch dflt lo hi offs, len)) (h1 : ¬ x.toInt < lo) (h2 : ¬ hi < x.toInt) (ho : offs[(x.toInt - lo).toNat]? = some off) (ht : (pc : Int) + off = (tgt : Int)) (kk : J Γ μ R Z k tgt L st X) : J Γ μ R Z k pc L (.int x :: st) X :=
  fun p e s m args below meth c H locs ls C S P Lr => lv_tableIn C.1 C.2.1 hd h1 h2 ho ht (kk p e s m args below meth c H locs ls C S P Lr)
theorem J_tableOut {dflt lo hi : Int} {offs : Array Int} {len : Nat} {x : Int32} {tgt : Nat} (hd : decode (mC μ) pc = .ok (.tableswitch dflt lo hi offs, len)) (h : x.toInt < lo ∨ hi < x.toInt) (ht : (pc : Int) + dflt = (tgt : Int)) (kk : J Γ μ R Z k tgt L st X) : J Γ μ R Z k pc L (.int x :: st) X :=
  fun p e s m args below meth c H locs ls C S P Lr => lv_tableOut C.1 C.2.1 hd h ht (kk p e s m args below meth c H locs ls C S P Lr)
end RW
end
section
-- ===== rows that read and write the heap =====
theorem va_pl_at {L : List Nat} {f : Nat → va_E} {a : Nat} (h : a ∈ L) : ∃ k : Nat, (va_pl L f)[k]? = some (a, f a) := va_pl_get (X := []) h
theorem fl_len (X : HS) (c a : Nat) : (fl X c a).length = nf c := by simp [fl]
theorem fl_at (X : HS) {c a i : Nat} (h : i < nf c) : (fl X c a)[i]? = some (gv X c i a) := by simp [fl, h]
/-- an object's cell in the world -/
theorem ce_obj {cy : Nat → ClassId} {X : HS} {a c : Nat} (hc : c < 10) (h : xK X a = c) : ce cy X a = .inr (c, fl X c a) := by
  unfold ce
  rw [h, if_pos hc]
theorem ce_arr {cy : Nat → ClassId} {X : HS} {a c : Nat} (hc : 10 ≤ c) (h : xK X a = c) : ce cy X a = .inl (cy c, xn X a, if c < 12 then .inl (xA X a) else if c = 18 then .inr (.inl (xJ X a)) else .inr (.inr (.inr (.inr (xP X a))))) := by
  unfold ce
  rw [h, if_neg (by omega)]
theorem cl_all : ∀ c, c < 10 → clOk c := by
  intro c hc
  have h : c = 0 ∨ c = 1 ∨ c = 2 ∨ c = 3 ∨ c = 4 ∨ c = 5 ∨ c = 6 ∨ c = 7 ∨ c = 8 ∨ c = 9 := by omega
  rcases h with rfl | rfl | rfl | rfl | rfl | rfl | rfl | rfl | rfl | rfl
  · exact ⟨RX0, TX0, rfl, by decide +kernel, tyX0_ok, nmX0⟩
  · exact ⟨RX1, TX1, rfl, by decide +kernel, tyX1_ok, nmX1⟩
  · exact ⟨RX2, TX2, rfl, by decide +kernel, tyX2_ok, nmX2⟩
  · exact ⟨RX3, TX3, rfl, by decide +kernel, tyX3_ok, nmX3⟩
  · exact ⟨RX4, TX4, rfl, by decide +kernel, tyX4_ok, nmX4⟩
  · exact ⟨RX5, TX5, rfl, by decide +kernel, tyX5_ok, nmX5⟩
  · exact ⟨RX7, TX7, rfl, by decide +kernel, tyX7_ok, nmX7⟩
  · exact ⟨RX8, TX8, rfl, by decide +kernel, tyX8_ok, nmX8⟩
  · exact ⟨RX9, TX9, rfl, by decide +kernel, tyX9_ok, nmX9⟩
  · exact ⟨RX10, TX10, rfl, by decide +kernel, tyX10_ok, nmX10⟩
/-- the entry idx of own's pool links the field k of the class ci -/
def FL (own : String) (idx ci i : Nat) : Prop := ∃ (C : String) (T : u_T) (ref : String), vwCl[ci]? = some (C, T, nf ci) ∧ ci < 10 ∧ i < nf ci ∧ Cond.fieldLink own idx ref (T i).2.1 (T i).2.2.1 ∈ BW ∧ (ref = (T i).1 ∨ Cond.sameField ref (T i).1 (T i).2.1 (T i).2.2.1 ∈ BW)
/-- .. and it isn't final; .. or it is own's -/
def FW (ci i : Nat) : Prop := ∀ (C : String) (T : u_T), vwCl[ci]? = some (C, T, nf ci) → (T i).2.2.2 = false
def FF (own : String) (ci i : Nat) : Prop := ∀ (C : String) (T : u_T), vwCl[ci]? = some (C, T, nf ci) → (T i).2.2.2 = true ∧ (T i).1 = own
theorem fl_intro {own : String} {idx ci i : Nat} {C : String} {T : u_T} (ref : String) (h1 : vwCl[ci]? = some (C, T, nf ci)) (h2 : ci < 10) (h3 : i < nf ci) (h4 : Cond.fieldLink own idx ref (T i).2.1 (T i).2.2.1 ∈ BW) (h5 : ref = (T i).1 ∨ Cond.sameField ref (T i).1 (T i).2.1 (T i).2.2.1 ∈ BW) : FL own idx ci i := ⟨C, T, ref, h1, h2, h3, h4, h5⟩
theorem same_of {args : Array Value} {s : State} {T : u_T} {ref : String} {i : Nat} (hts : ∀ w ∈ BW, w.before args s = true) (h5 : ref = (T i).1 ∨ Cond.sameField ref (T i).1 (T i).2.1 (T i).2.2.1 ∈ BW) : ∀ x, s.fieldFound? (T i).1 (T i).2.1 (T i).2.2.1 = some x → s.fieldFound? ref (T i).2.1 (T i).2.2.1 = some x := by
  intro x hx
  rcases h5 with h | h
  · rw [h]; exact hx
  · exact u_same (hts _ h) x hx
section HW
variable {Γ : GTy} {μ : MTy} {R : Room} {Z : List Frame → Array Value → State → State → Prop} {k : Nat × Nat} {pc : Nat} {L : List (Option Value)} {st : List Value} {X : HS}
theorem J_getV {idx c i a : Nat} (hF : FL (mN μ).cls idx c i) (hk : xK X a = c) (hd : decode (mC μ) pc = .ok (.getfield idx, 3)) (kk : J Γ μ R Z k (pc + 3) L (gv X c i a :: st) X) : J Γ μ R Z k pc L (.ref a :: st) X := by
  intro p e s m args below meth c' H locs ls C S P Lr
  obtain ⟨C0, T, ref, h1, h2, h3, h4, h5⟩ := hF
  obtain ⟨C1, T1, g1, g2, -, -⟩ := cl_all c h2
  cases h1.symm.trans g1
  obtain ⟨q, hq⟩ := va_pl_at (f := ce (gc Γ) X) (P.mem (a := a) (by omega))
  rw [ce_obj h2 hk] at hq
  obtain ⟨x1, x2, x3, x4, x5, x6, x7, x8, x9, x10⟩ := C
  exact va_get x1 x2 x9 g2 x7 x10.1 P.1 q hq h1 i h3 (x9 _ h4) (same_of x9 h5) (fl_at X h3) hd (kk p e s m args below meth c' H locs ls ⟨x1, x2, x3, x4, x5, x6, x7, x8, x9, x10⟩ S P Lr)
theorem J_getI {idx c i a : Nat} (hF : FL (mN μ).cls idx c i) (hk : xK X a = c) (hr : rf c i = false) (hd : decode (mC μ) pc = .ok (.getfield idx, 3)) (kk : J Γ μ R Z k (pc + 3) L (.int (xI X c i a) :: st) X) : J Γ μ R Z k pc L (.ref a :: st) X :=
  J_getV hF hk hd (by unfold gv; rw [hr]; exact kk)
theorem J_getR {idx c i a : Nat} (hF : FL (mN μ).cls idx c i) (hk : xK X a = c) (hr : rf c i = true) (hd : decode (mC μ) pc = .ok (.getfield idx, 3)) (kn : xR X c i a = none → J Γ μ R Z k (pc + 3) L (.null :: st) X) (kk : ∀ r : Nat, xR X c i a = some r → J Γ μ R Z k (pc + 3) L (.ref r :: st) X) : J Γ μ R Z k pc L (.ref a :: st) X := by
  refine J_getV hF hk hd ?_
  unfold gv
  rw [hr]
  cases h : xR X c i a with
  | none => exact kn h
  | some r => exact kk r h
theorem J_getS {idx c i a r : Nat} (hF : FL (mN μ).cls idx c i) (hk : xK X a = c) (hr : rf c i = true) (h : xR X c i a = some r) (hd : decode (mC μ) pc = .ok (.getfield idx, 3)) (kk : J Γ μ R Z k (pc + 3) L (.ref r :: st) X) : J Γ μ R Z k pc L (.ref a :: st) X := by
  refine J_getV hF hk hd ?_
  unfold gv
  rw [hr, if_pos rfl, h]
  exact kk
theorem J_getN {idx c i a : Nat} (hF : FL (mN μ).cls idx c i) (hk : xK X a = c) (hr : rf c i = true) (h : xR X c i a = none) (hd : decode (mC μ) pc = .ok (.getfield idx, 3)) (kk : J Γ μ R Z k (pc + 3) L (.null :: st) X) : J Γ μ R Z k pc L (.ref a :: st) X := by
  refine J_getV hF hk hd ?_
  unfold gv
  rw [hr, if_pos rfl, h]
  exact kk
theorem ce_up {cy : Nat → ClassId} {X X' : HS} {a c i : Nat} {v : Value} (hc : c < 10) (hk : xK X a = c) (h1 : xK X' = xK X) (hi : i < nf c) (hv : gv X' c i a = v) (ho : ∀ j, j < nf c → j ≠ i → gv X' c j a = gv X c j a) (hq : ∀ b, b ≠ a → ∀ c' j, gv X' c' j b = gv X c' j b) (hn : xn X' = xn X) (hA : xA X' = xA X) (hJ : xJ X' = xJ X) (hP : xP X' = xP X) :
    ∀ b, va_up (ce cy X) a (.inr (c, (fl X c a).set i v)) b = ce cy X' b := by
  intro b
  by_cases hb : b = a
  · subst hb
    rw [va_up_self, ce_obj hc (by rw [h1]; exact hk)]
    refine congrArg (fun l => Sum.inr (c, l)) ?_
    apply List.ext_getElem?
    intro j
    by_cases hj : j < nf c
    · rw [fl_at X' hj]
      by_cases e : j = i
      · subst e
        rw [List.getElem?_set_self (by rw [fl_len]; exact hj), hv]
      · rw [List.getElem?_set_ne (Ne.symm e), fl_at X hj, ho j hj e]
    · rw [List.getElem?_eq_none (by rw [List.length_set, fl_len]; omega), List.getElem?_eq_none (by rw [fl_len]; omega)]
  · rw [va_up_ne _ _ hb]
    have e : fl X' (xK X b) b = fl X (xK X b) b := by
      unfold fl
      exact List.map_congr_left (fun j _ => hq b hb _ j)
    unfold ce
    rw [h1, e, hn, hA, hJ, hP]
/-- a field is put: what the two rows for ints and references share -/
theorem J_putV {idx c i a : Nat} {v : Value} {X' : HS} (hF : FL (mN μ).cls idx c i) (hW : FW c i ∨ (FF (mN μ).cls c i ∧ (mN μ).name = "<init>")) (hk : xK X a = c) (hn : narrow (ft c i) v = v) (hf : fits (ft c i) v = true) (hx : ∀ cy b, va_up (ce cy X) a (.inr (c, (fl X c a).set i v)) b = ce cy X' b) (hl : xL X' = xL X) (hK : xK X' = xK X)
    (hd : decode (mC μ) pc = .ok (.putfield idx, 3)) (kk : J Γ μ R Z k (pc + 3) L st X') : J Γ μ R Z k pc L (v :: .ref a :: st) X := by
  intro p e s m args below meth c' H locs ls C S P Lr
  obtain ⟨C0, T, ref, h1, h2, h3, h4, h5⟩ := hF
  obtain ⟨C1, T1, g1, g2, g3, g4⟩ := cl_all c h2
  cases h1.symm.trans g1
  have hm := P.mem (a := a) (by omega)
  obtain ⟨q, hq⟩ := va_pl_at (f := ce (gc Γ) X) hm
  have hq' := hq
  rw [ce_obj h2 hk] at hq
  obtain ⟨x1, x2, x3, x4, x5, x6, x7, x8, x9, x10⟩ := id C
  have e9 : (va_pl (xL X) (ce (gc Γ) X)).set q (a, .inr (c, (fl X c a).set i v)) = va_pl (xL X') (ce (gc Γ) X') := by
    have := va_pl_set (X := []) (e := .inr (c, (fl X c a).set i v)) P.2.1 hm hq'
    rw [List.nil_append, List.nil_append] at this
    rw [this, va_pl_congr (hx _), hl]
  have fin : ∀ (H1 : Heap) (locs1 : List Loc), va_P (gD Γ) vwCl ((va_pl (xL X) (ce (gc Γ) X)).set q (a, .inr (c, (fl X c a).set i v))) H1 → va_D (gA Γ) ((va_pl (xL X) (ce (gc Γ) X)).set q (a, .inr (c, (fl X c a).set i v))) → va_S (gA Γ) s.heap H1 locs1 → W p (gl Γ) e R s m args below meth c' H1 locs1 k.1 k.2 (Z below args s) (F0 m (pc + 3) ls st) := by
    intro H1 locs1 b1 b2 b3
    rw [e9] at b1 b2
    exact kk p e s m args below meth c' H1 locs1 ls C b3 ⟨b1, b2, by rw [hl, hK]; exact P.2.2⟩ Lr
  rcases hW with hW | ⟨hW, hin⟩
  · exact va_put x1 x2 x9 g2 (ft c) g3 g4 x7 x10.1 P.1 P.2.1 S q hq h1 i h3 (x9 _ h4) (same_of x9 h5) (hW _ _ h1) (g3 i h3) hn hf (by rw [fl_len]; exact h3) hd fin
  · exact va_putF x1 x2 x9 g2 (ft c) g3 g4 x7 x10.1 P.1 P.2.1 S q hq h1 i h3 (x9 _ h4) (same_of x9 h5) (hW _ _ h1).1 (x8.trans hin) (hW _ _ h1).2 (g3 i h3) hn hf (by rw [fl_len]; exact h3) hd fin
theorem gv_sI {X : HS} {c i a : Nat} {v : Int32} (c' j b : Nat) : gv (sI X c i a v) c' j b = if rf c' j = true then va_rf (xR X c' j b) else .int (if c' = c ∧ j = i ∧ b = a then v else xI X c' j b) := rfl
theorem gv_sR {X : HS} {c i a : Nat} {v : Option Nat} (c' j b : Nat) : gv (sR X c i a v) c' j b = if rf c' j = true then va_rf (if c' = c ∧ j = i ∧ b = a then v else xR X c' j b) else .int (xI X c' j b) := rfl
theorem J_putI0 {idx c i a : Nat} {v : Int32} (hF : FL (mN μ).cls idx c i) (hW : FW c i ∨ (FF (mN μ).cls c i ∧ (mN μ).name = "<init>")) (hk : xK X a = c) (hr : rf c i = false) (hn : narrow (ft c i) (.int v) = .int v) (hf : fits (ft c i) (.int v) = true) (hd : decode (mC μ) pc = .ok (.putfield idx, 3)) (kk : J Γ μ R Z k (pc + 3) L st (sI X c i a v)) : J Γ μ R Z k pc L (.int v :: .ref a :: st) X := by
  obtain ⟨C0, T, ref, h1, h2, h3, h4, h5⟩ := id hF
  refine J_putV (X' := sI X c i a v) hF hW hk hn hf (fun cy => ce_up h2 hk rfl h3 ?_ ?_ ?_ rfl rfl rfl rfl) rfl rfl hd kk
  · rw [gv_sI, hr]; simp
  · intro j hj e
    rw [gv_sI]; simp [gv, e]
  · intro b hb c' j
    rw [gv_sI]; simp [gv, hb]
theorem J_putI {idx c i a : Nat} {v : Int32} (hF : FL (mN μ).cls idx c i) (hW : FW c i) (hk : xK X a = c) (ht : ft c i = .int) (hd : decode (mC μ) pc = .ok (.putfield idx, 3)) (kk : J Γ μ R Z k (pc + 3) L st (sI X c i a v)) : J Γ μ R Z k pc L (.int v :: .ref a :: st) X :=
  J_putI0 hF (Or.inl hW) hk (by unfold rf; rw [ht]) (by rw [ht]; rfl) (by rw [ht]; rfl) hd kk
theorem bool_ok {v : Int32} (h : v = 0 ∨ v = 1) : narrow .boolean (.int v) = .int v ∧ fits .boolean (.int v) = true := by
  rcases h with rfl | rfl <;> exact ⟨by decide, by decide⟩
theorem J_putZ {idx c i a : Nat} {v : Int32} (hF : FL (mN μ).cls idx c i) (hW : FW c i) (hk : xK X a = c) (ht : ft c i = .boolean) (hv : v = 0 ∨ v = 1) (hd : decode (mC μ) pc = .ok (.putfield idx, 3)) (kk : J Γ μ R Z k (pc + 3) L st (sI X c i a v)) : J Γ μ R Z k pc L (.int v :: .ref a :: st) X :=
  J_putI0 hF (Or.inl hW) hk (by unfold rf; rw [ht]) (by rw [ht]; exact (bool_ok hv).1) (by rw [ht]; exact (bool_ok hv).2) hd kk
theorem J_putIF {idx c i a : Nat} {v : Int32} (hF : FL (mN μ).cls idx c i) (hW : FF (mN μ).cls c i) (hin : (mN μ).name = "<init>") (hk : xK X a = c) (ht : ft c i = .int) (hd : decode (mC μ) pc = .ok (.putfield idx, 3)) (kk : J Γ μ R Z k (pc + 3) L st (sI X c i a v)) : J Γ μ R Z k pc L (.int v :: .ref a :: st) X :=
  J_putI0 hF (Or.inr ⟨hW, hin⟩) hk (by unfold rf; rw [ht]) (by rw [ht]; rfl) (by rw [ht]; rfl) hd kk
theorem J_putZF {idx c i a : Nat} {v : Int32} (hF : FL (mN μ).cls idx c i) (hW : FF (mN μ).cls c i) (hin : (mN μ).name = "<init>") (hk : xK X a = c) (ht : ft c i = .boolean) (hv : v = 0 ∨ v = 1) (hd : decode (mC μ) pc = .ok (.putfield idx, 3)) (kk : J Γ μ R Z k (pc + 3) L st (sI X c i a v)) : J Γ μ R Z k pc L (.int v :: .ref a :: st) X :=
  J_putI0 hF (Or.inr ⟨hW, hin⟩) hk (by unfold rf; rw [ht]) (by rw [ht]; exact (bool_ok hv).1) (by rw [ht]; exact (bool_ok hv).2) hd kk
theorem rf_ok {c i : Nat} (h : rf c i = true) (o : Option Nat) (hs : ∀ t, ft c i = t → t = .int ∨ t = .boolean ∨ (∃ n, t = .object n) ∨ ∃ n, t = .array n) : narrow (ft c i) (va_rf o) = va_rf o ∧ fits (ft c i) (va_rf o) = true := by
  rcases hs _ rfl with e | e | ⟨n, e⟩ | ⟨n, e⟩
  · unfold rf at h; rw [e] at h; cases h
  · unfold rf at h; rw [e] at h; cases h
  · rw [e]; cases o <;> exact ⟨rfl, rfl⟩
  · rw [e]; cases o <;> exact ⟨rfl, rfl⟩
theorem J_putR0 {idx c i a : Nat} {o : Option Nat} {v : Value} (hv : va_rf o = v) (hF : FL (mN μ).cls idx c i) (hW : FW c i ∨ (FF (mN μ).cls c i ∧ (mN μ).name = "<init>")) (hk : xK X a = c) (hr : rf c i = true) (hs : ∀ t, ft c i = t → t = .int ∨ t = .boolean ∨ (∃ n, t = .object n) ∨ ∃ n, t = .array n) (hd : decode (mC μ) pc = .ok (.putfield idx, 3)) (kk : J Γ μ R Z k (pc + 3) L st (sR X c i a o)) : J Γ μ R Z k pc L (v :: .ref a :: st) X := by
  obtain ⟨C0, T, ref, h1, h2, h3, h4, h5⟩ := id hF
  subst hv
  obtain ⟨n1, n2⟩ := rf_ok hr o hs
  refine J_putV (X' := sR X c i a o) hF hW hk n1 n2 (fun cy => ce_up h2 hk rfl h3 ?_ ?_ ?_ rfl rfl rfl rfl) rfl rfl hd kk
  · rw [gv_sR, hr]; simp
  · intro j hj e
    rw [gv_sR]; simp [gv, e]
  · intro b hb c' j
    rw [gv_sR]; simp [gv, hb]
theorem J_putR {idx c i a : Nat} {o : Option Nat} {v : Value} (hv : va_rf o = v) (hF : FL (mN μ).cls idx c i) (hW : FW c i) (hk : xK X a = c) {n : String} (ht : ft c i = .object n) (hd : decode (mC μ) pc = .ok (.putfield idx, 3)) (kk : J Γ μ R Z k (pc + 3) L st (sR X c i a o)) : J Γ μ R Z k pc L (v :: .ref a :: st) X :=
  J_putR0 hv hF (Or.inl hW) hk (by unfold rf; rw [ht]) (fun t h => Or.inr (Or.inr (Or.inl ⟨n, by rw [← h]; exact ht⟩))) hd kk
theorem J_putRF {idx c i a : Nat} {o : Option Nat} {v : Value} (hv : va_rf o = v) (hF : FL (mN μ).cls idx c i) (hW : FF (mN μ).cls c i) (hin : (mN μ).name = "<init>") (hk : xK X a = c) {n : String} (ht : ft c i = .object n) (hd : decode (mC μ) pc = .ok (.putfield idx, 3)) (kk : J Γ μ R Z k (pc + 3) L st (sR X c i a o)) : J Γ μ R Z k pc L (v :: .ref a :: st) X :=
  J_putR0 hv hF (Or.inr ⟨hW, hin⟩) hk (by unfold rf; rw [ht]) (fun t h => Or.inr (Or.inr (Or.inl ⟨n, by rw [← h]; exact ht⟩))) hd kk
theorem J_putAF {idx c i a : Nat} {o : Option Nat} {v : Value} (hv : va_rf o = v) (hF : FL (mN μ).cls idx c i) (hW : FF (mN μ).cls c i) (hin : (mN μ).name = "<init>") (hk : xK X a = c) {n : FieldType} (ht : ft c i = .array n) (hd : decode (mC μ) pc = .ok (.putfield idx, 3)) (kk : J Γ μ R Z k (pc + 3) L st (sR X c i a o)) : J Γ μ R Z k pc L (v :: .ref a :: st) X :=
  J_putR0 hv hF (Or.inr ⟨hW, hin⟩) hk (by unfold rf; rw [ht]) (fun t h => Or.inr (Or.inr (Or.inr ⟨n, by rw [← h]; exact ht⟩))) hd kk
-- arrays
def tyI : Nat → Nat := fun c => c - 10
theorem ty_at (cy : Nat → ClassId) : (tyL cy)[0]? = some (cy 10, .int) ∧ (tyL cy)[1]? = some (cy 11, .boolean) ∧ (tyL cy)[8]? = some (cy 18, .long) ∧ ∀ c, 12 ≤ c → c < 18 → (tyL cy)[c - 10]? = some (cy c, .object (eC c)) := by
  refine ⟨rfl, rfl, rfl, fun c h1 h2 => ?_⟩
  have h : c = 12 ∨ c = 13 ∨ c = 14 ∨ c = 15 ∨ c = 16 ∨ c = 17 := by omega
  rcases h with rfl | rfl | rfl | rfl | rfl | rfl <;> rfl
theorem ix_in {j n : Nat} (hj : j < n) (h2 : j < 2 ^ 31) : vp_in (nI j) n := by
  unfold vp_in
  rw [nI_clamp h2]
  intro h
  rcases h with h | h
  · exact nI_pos h2 h
  · omega
theorem Rp.arr {H : Heap} (P : Rp Γ X H) {a c : Nat} (hc : 10 ≤ c) (hk : xK X a = c) (h9 : c ≠ 99) : ∃ q : Nat, (va_pl (xL X) (ce (gc Γ) X))[q]? = some (a, ce (gc Γ) X a) ∧ (va_pl (xL X) (ce (gc Γ) X))[q]? = some (a, .inl (gc Γ c, xn X a, if c < 12 then .inl (xA X a) else if c = 18 then .inr (.inl (xJ X a)) else .inr (.inr (.inr (.inr (xP X a)))))) := by
  obtain ⟨q, hq⟩ := va_pl_at (f := ce (gc Γ) X) (P.mem (a := a) (by omega))
  refine ⟨q, hq, ?_⟩
  rw [ce_arr hc hk] at hq
  exact hq
theorem J_alen {a c : Nat} {v : Int32} (hc : 10 ≤ c ∧ c ≤ 18) (hk : xK X a = c) (hv : nI (xn X a) = v) (hd : decode (mC μ) pc = .ok (.arraylength, 1)) (kk : J Γ μ R Z k (pc + 1) L (.int v :: st) X) : J Γ μ R Z k pc L (.ref a :: st) X := by
  intro p e s m args below meth c' H locs ls C S P Lr
  obtain ⟨q, -, hq⟩ := P.arr hc.1 hk (by omega)
  obtain ⟨t0, t1, t8, tt⟩ := ty_at (gc Γ)
  obtain ⟨x1, x2, x3, x4, x5, x6, x7, x8, x9, x10⟩ := id C
  have K := kk p e s m args below meth c' H locs ls C S P Lr
  have h : c = 10 ∨ c = 11 ∨ c = 18 ∨ (12 ≤ c ∧ c < 18) := by omega
  rcases h with rfl | rfl | rfl | ⟨h1, h2⟩
  · exact va_alen x1 x2 x10.1 P.1 q 0 hq t0 hv hd K
  · exact va_alen x1 x2 x10.1 P.1 q 1 hq t1 hv hd K
  · exact va_alen x1 x2 x10.1 P.1 q 8 hq t8 hv hd K
  · exact va_alen x1 x2 x10.1 P.1 q (c - 10) hq (tt c h1 h2) hv hd K
theorem J_iald {a j : Nat} {i : Int32} (hk : xK X a = 10) (hi : i = nI j) (hj : j < xn X a) (h2 : j < 2 ^ 31) (hd : decode (mC μ) pc = .ok (.iaload, 1)) (kk : J Γ μ R Z k (pc + 1) L (.int (xA X a j) :: st) X) : J Γ μ R Z k pc L (.int i :: .ref a :: st) X := by
  intro p e s m args below meth c' H locs ls C S P Lr
  obtain ⟨q, -, hq⟩ := P.arr (by decide) hk (by decide)
  obtain ⟨x1, x2, x3, x4, x5, x6, x7, x8, x9, x10⟩ := id C
  subst hi
  have K := kk p e s m args below meth c' H locs ls C S P Lr
  exact va_iald x1 x2 x10.1 P.1 q 0 (f := xA X a) hq (ty_at (gc Γ)).1 (ix_in hj h2) hd (by rw [nI_clamp h2]; exact K)
theorem J_bald {a j : Nat} {i : Int32} (hk : xK X a = 11) (hi : i = nI j) (hj : j < xn X a) (h2 : j < 2 ^ 31) (hd : decode (mC μ) pc = .ok (.baload, 1)) (kk : J Γ μ R Z k (pc + 1) L (.int (xA X a j) :: st) X) : J Γ μ R Z k pc L (.int i :: .ref a :: st) X := by
  intro p e s m args below meth c' H locs ls C S P Lr
  obtain ⟨q, -, hq⟩ := P.arr (by decide) hk (by decide)
  obtain ⟨x1, x2, x3, x4, x5, x6, x7, x8, x9, x10⟩ := id C
  subst hi
  have K := kk p e s m args below meth c' H locs ls C S P Lr
  exact va_zald x1 x2 x10.1 P.1 q 1 (f := xA X a) hq (ty_at (gc Γ)).2.1 (ix_in hj h2) hd (by rw [nI_clamp h2]; exact K)
theorem J_lald {a j : Nat} {i : Int32} (hk : xK X a = 18) (hi : i = nI j) (hj : j < xn X a) (h2 : j < 2 ^ 31) (hd : decode (mC μ) pc = .ok (.laload, 1)) (kk : J Γ μ R Z k (pc + 1) L (.long (xJ X a j) :: st) X) : J Γ μ R Z k pc L (.int i :: .ref a :: st) X := by
  intro p e s m args below meth c' H locs ls C S P Lr
  obtain ⟨q, -, hq⟩ := P.arr (by decide) hk (by decide)
  obtain ⟨x1, x2, x3, x4, x5, x6, x7, x8, x9, x10⟩ := id C
  subst hi
  have K := kk p e s m args below meth c' H locs ls C S P Lr
  exact va_lald x1 x2 x10.1 P.1 q 8 (f := xJ X a) hq (ty_at (gc Γ)).2.2.1 (ix_in hj h2) hd (by rw [nI_clamp h2]; exact K)
theorem J_aaldV {a j c : Nat} {i : Int32} (hk : xK X a = c) (hc : 12 ≤ c ∧ c < 18) (hi : i = nI j) (hj : j < xn X a) (h2 : j < 2 ^ 31) (hd : decode (mC μ) pc = .ok (.aaload, 1)) (kk : J Γ μ R Z k (pc + 1) L (va_rf (xP X a j) :: st) X) : J Γ μ R Z k pc L (.int i :: .ref a :: st) X := by
  intro p e s m args below meth c' H locs ls C S P Lr
  obtain ⟨q, -, hq⟩ := P.arr (by omega) hk (by omega)
  rw [if_neg (by omega), if_neg (by omega)] at hq
  obtain ⟨x1, x2, x3, x4, x5, x6, x7, x8, x9, x10⟩ := id C
  subst hi
  have K := kk p e s m args below meth c' H locs ls C S P Lr
  exact va_aldq x1 x2 x10.1 P.1 q (c - 10) (f := xP X a) hq ((ty_at (gc Γ)).2.2.2 c hc.1 hc.2) (ix_in hj h2) hd (by rw [nI_clamp h2]; exact K)
theorem J_aald {a j c : Nat} {i : Int32} (hk : xK X a = c) (hc : 12 ≤ c ∧ c < 18) (hi : i = nI j) (hj : j < xn X a) (h2 : j < 2 ^ 31) (hd : decode (mC μ) pc = .ok (.aaload, 1)) (kn : xP X a j = none → J Γ μ R Z k (pc + 1) L (.null :: st) X) (kk : ∀ r : Nat, xP X a j = some r → J Γ μ R Z k (pc + 1) L (.ref r :: st) X) : J Γ μ R Z k pc L (.int i :: .ref a :: st) X := by
  refine J_aaldV hk hc hi hj h2 hd ?_
  cases h : xP X a j with
  | none => exact kn h
  | some r => exact kk r h
theorem J_aaldS {a j c r : Nat} {i : Int32} (hk : xK X a = c) (hc : 12 ≤ c ∧ c < 18) (hi : i = nI j) (hj : j < xn X a) (h2 : j < 2 ^ 31) (h : xP X a j = some r) (hd : decode (mC μ) pc = .ok (.aaload, 1)) (kk : J Γ μ R Z k (pc + 1) L (.ref r :: st) X) : J Γ μ R Z k pc L (.int i :: .ref a :: st) X := by
  refine J_aaldV hk hc hi hj h2 hd ?_
  rw [h]
  exact kk
theorem ce_upA {cy : Nat → ClassId} {X X' : HS} {a c : Nat} {x : va_E} (hk : xK X a = c) (hc : 10 ≤ c) (h1 : xK X' = xK X) (hg : ∀ c' j b, gv X' c' j b = gv X c' j b) (hn : xn X' = xn X) (hx : ce cy X' a = x) (hA : ∀ b, b ≠ a → xA X' b = xA X b) (hJ : ∀ b, b ≠ a → xJ X' b = xJ X b) (hP : ∀ b, b ≠ a → xP X' b = xP X b) :
    ∀ b, va_up (ce cy X) a x b = ce cy X' b := by
  intro b
  by_cases hb : b = a
  · subst hb
    rw [va_up_self, hx]
  · rw [va_up_ne _ _ hb]
    have e : fl X' (xK X b) b = fl X (xK X b) b := by
      unfold fl
      exact List.map_congr_left (fun j _ => hg _ j b)
    unfold ce
    rw [h1, e, hn, hA b hb, hJ b hb, hP b hb]
theorem Rp.put {H1 : Heap} {H : Heap} (P : Rp Γ X H) {X' : HS} {a q : Nat} {x : va_E} (hm : a ∈ xL X) (hq : (va_pl (xL X) (ce (gc Γ) X))[q]? = some (a, ce (gc Γ) X a)) (hx : ∀ b, va_up (ce (gc Γ) X) a x b = ce (gc Γ) X' b) (hl : xL X' = xL X) (hK : xK X' = xK X) (b1 : va_P (gD Γ) vwCl ((va_pl (xL X) (ce (gc Γ) X)).set q (a, x)) H1) (b2 : va_D (gA Γ) ((va_pl (xL X) (ce (gc Γ) X)).set q (a, x))) : Rp Γ X' H1 := by
  have e : (va_pl (xL X) (ce (gc Γ) X)).set q (a, x) = va_pl (xL X') (ce (gc Γ) X') := by
    have := va_pl_set (X := []) (e := x) P.2.1 hm hq
    rw [List.nil_append, List.nil_append] at this
    rw [this, va_pl_congr hx, hl]
  rw [e] at b1 b2
  exact ⟨b1, b2, by rw [hl, hK]; exact P.2.2⟩
theorem u2_at {α : Type} (f : Nat → Nat → α) (a i : Nat) (v : α) : u2 f a i v a = fun i' => if i' = i then v else f a i' := by
  funext i'
  simp [u2]
theorem u2_ne {α : Type} (f : Nat → Nat → α) {a b : Nat} (i : Nat) (v : α) (h : b ≠ a) : u2 f a i v b = f b := by
  funext i'
  simp [u2, h]
theorem J_iast {a j : Nat} {i x : Int32} (hk : xK X a = 10) (hi : i = nI j) (hj : j < xn X a) (h2 : j < 2 ^ 31) (hd : decode (mC μ) pc = .ok (.iastore, 1)) (kk : J Γ μ R Z k (pc + 1) L st (sA X a j x)) : J Γ μ R Z k pc L (.int x :: .int i :: .ref a :: st) X := by
  intro p e s m args below meth c' H locs ls C S P Lr
  obtain ⟨q, hq0, hq⟩ := P.arr (by decide) hk (by decide)
  obtain ⟨x1, x2, x3, x4, x5, x6, x7, x8, x9, x10⟩ := id C
  subst hi
  refine va_iast x1 x2 x10.1 P.1 P.2.1 S q 0 (f := xA X a) hq (ty_at (gc Γ)).1 (ix_in hj h2) hd (fun H1 locs1 b1 b2 b3 => ?_)
  refine kk p e s m args below meth c' H1 locs1 ls C b3 (P.put (X' := sA X a j x) (P.mem (by omega)) hq0 (ce_upA hk (by decide) rfl (fun _ _ _ => rfl) rfl ?_ (fun b hb => u2_ne _ _ _ hb) (fun _ _ => rfl) (fun _ _ => rfl)) rfl rfl b1 b2) Lr
  rw [ce_arr (by decide) (show xK (sA X a j x) a = 10 from hk), if_pos (by decide), nI_clamp h2]
  refine congrArg (fun f => Sum.inl (gc Γ 10, xn X a, Sum.inl f)) ?_
  exact u2_at _ _ _ _
theorem J_bast {a j : Nat} {i x : Int32} (hk : xK X a = 11) (hi : i = nI j) (hj : j < xn X a) (h2 : j < 2 ^ 31) (hx : x = 0 ∨ x = 1) (hd : decode (mC μ) pc = .ok (.bastore, 1)) (kk : J Γ μ R Z k (pc + 1) L st (sA X a j x)) : J Γ μ R Z k pc L (.int x :: .int i :: .ref a :: st) X := by
  intro p e s m args below meth c' H locs ls C S P Lr
  obtain ⟨q, hq0, hq⟩ := P.arr (by decide) hk (by decide)
  obtain ⟨x1, x2, x3, x4, x5, x6, x7, x8, x9, x10⟩ := id C
  subst hi
  refine va_zast x1 x2 x10.1 P.1 P.2.1 S q 1 (f := xA X a) hq (ty_at (gc Γ)).2.1 (ix_in hj h2) hd (fun H1 locs1 b1 b2 b3 => ?_)
  refine kk p e s m args below meth c' H1 locs1 ls C b3 (P.put (X' := sA X a j x) (P.mem (by omega)) hq0 (ce_upA hk (by decide) rfl (fun _ _ _ => rfl) rfl ?_ (fun b hb => u2_ne _ _ _ hb) (fun _ _ => rfl) (fun _ _ => rfl)) rfl rfl b1 b2) Lr
  rw [ce_arr (by decide) (show xK (sA X a j x) a = 11 from hk), if_pos (by decide), nI_clamp h2]
  refine congrArg (fun f => Sum.inl (gc Γ 11, xn X a, Sum.inl f)) ?_
  have e : vp_nar .boolean x = x := by rcases hx with rfl | rfl <;> decide
  rw [e]
  exact u2_at _ _ _ _
theorem J_last {a j : Nat} {i : Int32} {x : Int64} (hk : xK X a = 18) (hi : i = nI j) (hj : j < xn X a) (h2 : j < 2 ^ 31) (hd : decode (mC μ) pc = .ok (.lastore, 1)) (kk : J Γ μ R Z k (pc + 1) L st (sJ X a j x)) : J Γ μ R Z k pc L (.long x :: .int i :: .ref a :: st) X := by
  intro p e s m args below meth c' H locs ls C S P Lr
  obtain ⟨q, hq0, hq⟩ := P.arr (by decide) hk (by decide)
  obtain ⟨x1, x2, x3, x4, x5, x6, x7, x8, x9, x10⟩ := id C
  subst hi
  refine va_last x1 x2 x10.1 P.1 P.2.1 S q 8 (f := xJ X a) hq (ty_at (gc Γ)).2.2.1 (ix_in hj h2) hd (fun H1 locs1 b1 b2 b3 => ?_)
  refine kk p e s m args below meth c' H1 locs1 ls C b3 (P.put (X' := sJ X a j x) (P.mem (by omega)) hq0 (ce_upA hk (by decide) rfl (fun _ _ _ => rfl) rfl ?_ (fun _ _ => rfl) (fun b hb => u2_ne _ _ _ hb) (fun _ _ => rfl)) rfl rfl b1 b2) Lr
  rw [ce_arr (by decide) (show xK (sJ X a j x) a = 18 from hk), if_neg (by decide), if_pos rfl, nI_clamp h2]
  refine congrArg (fun f => Sum.inl (gc Γ 18, xn X a, Sum.inr (Sum.inl f))) ?_
  exact u2_at _ _ _ _
/-- the class of kind c, by its name -/
def cN : Nat → String := fun c => match c with
  | 0 => RX0
  | 1 => RX1
  | 2 => RX2
  | 3 => RX3
  | 4 => RX4
  | 5 => RX5
  | 6 => RX7
  | 7 => RX8
  | 8 => RX9
  | _ => RX10
theorem Rp.recv {H : Heap} {s : State} (P : Rp Γ X H) (G : GF Γ s) {a c : Nat} (hc : c < 10) (hk : xK X a = c) : ∃ cell : Cell, H[a]? = some cell ∧ cell.vm.isStatics = false ∧ s.vm.findClass (cN c) = some cell.cls := by
  obtain ⟨q, hq⟩ := va_pl_at (f := ce (gc Γ) X) (P.mem (a := a) (by omega))
  rw [ce_obj hc hk] at hq
  obtain ⟨C1, T1, g1, -⟩ := cl_all c hc
  have h := va_recv G.1 P.1 g1 hq
  have e : C1 = cN c := by
    have h0 : c = 0 ∨ c = 1 ∨ c = 2 ∨ c = 3 ∨ c = 4 ∨ c = 5 ∨ c = 6 ∨ c = 7 ∨ c = 8 ∨ c = 9 := by omega
    rcases h0 with rfl | rfl | rfl | rfl | rfl | rfl | rfl | rfl | rfl | rfl <;> cases g1 <;> rfl
  rw [← e]
  exact h
theorem J_aast {a j c b cb : Nat} {i : Int32} (hk : xK X a = c) (hc : 12 ≤ c ∧ c < 18) (hi : i = nI j) (hj : j < xn X a) (h2 : j < 2 ^ 31) (hb : xK X b = cb) (hcb : cb < 10) (hcc : cN cb = eC c) (hd : decode (mC μ) pc = .ok (.aastore, 1)) (kk : J Γ μ R Z k (pc + 1) L st (sP X a j (some b))) : J Γ μ R Z k pc L (.ref b :: .int i :: .ref a :: st) X := by
  intro p e0 s m args below meth c' H locs ls C S P Lr
  obtain ⟨q, hq0, hq⟩ := P.arr (by omega) hk (by omega)
  rw [if_neg (by omega), if_neg (by omega)] at hq
  obtain ⟨x1, x2, x3, x4, x5, x6, x7, x8, x9, x10⟩ := id C
  subst hi
  obtain ⟨q1, hq1⟩ := va_pl_at (f := ce (gc Γ) X) (P.mem (a := b) (by omega))
  rw [ce_obj hcb hb] at hq1
  obtain ⟨C1, T1, g1, -⟩ := cl_all cb hcb
  have e : C1 = cN cb := by
    have h0 : cb = 0 ∨ cb = 1 ∨ cb = 2 ∨ cb = 3 ∨ cb = 4 ∨ cb = 5 ∨ cb = 6 ∨ cb = 7 ∨ cb = 8 ∨ cb = 9 := by omega
    rcases h0 with rfl | rfl | rfl | rfl | rfl | rfl | rfl | rfl | rfl | rfl <;> cases g1 <;> rfl
  have ht := (ty_at (gc Γ)).2.2.2 c hc.1 hc.2
  rw [← hcc, ← e] at ht
  refine va_astq x1 x2 x10.1 P.1 P.2.1 S q (c - 10) q1 cb (f := xP X a) hq ht hq1 g1 (ix_in hj h2) hd (fun H1 locs1 b1 b2 b3 => ?_)
  refine kk p e0 s m args below meth c' H1 locs1 ls C b3 (P.put (X' := sP X a j (some b)) (P.mem (by omega)) hq0 (ce_upA hk (by omega) rfl (fun _ _ _ => rfl) rfl ?_ (fun _ _ => rfl) (fun _ _ => rfl) (fun b hb => u2_ne _ _ _ hb)) rfl rfl b1 b2) Lr
  rw [ce_arr (by omega) (show xK (sP X a j (some b)) a = c from hk), if_neg (by omega), if_neg (by omega), nI_clamp h2]
  refine congrArg (fun f => Sum.inl (gc Γ c, xn X a, Sum.inr (Sum.inr (Sum.inr (Sum.inr f))))) ?_
  exact u2_at _ _ _ _
end HW
end
section
-- ===== returns, calls, throws, new objects and arrays, statics =====
section CW
variable {Γ : GTy} {μ : MTy} {R : Room} {Z : List Frame → Array Value → State → State → Prop} {k : Nat × Nat} {pc : Nat} {L : List (Option Value)} {st : List Value} {X : HS}
variable {QV : Option Value → HS → Prop} {QX : String → HS → Prop}
/-- an end that takes every return -/
def RZ (Γ : GTy) (μ : MTy) (QV : Option Value → HS → Prop) (Z : List Frame → Array Value → State → State → Prop) : Prop := ∀ (below : List Frame) (args : Array Value) (s t : State), MQ below (Qo Γ QV) args s (mM μ) (mS μ) (gA Γ) t → Z below args s t
theorem RZ.n : RZ Γ μ QV (Zn Γ μ QV) := fun _ _ _ _ h => h
theorem RZ.x : RZ Γ μ QV (Zx Γ μ QV QX) := fun _ _ _ _ h => by
  obtain ⟨o, b1, b2, b3, b4⟩ := h
  exact ⟨o, b1, b2, Or.inl ⟨b3, b4⟩⟩
theorem J_ret {v : Option Value} (hz : RZ Γ μ QV Z) (hk : k.1 ≤ mM μ ∧ k.2 ≤ mS μ) (hq : QV v X)
    (row : ∀ (p : Program) (e : Env) (s : State) (m : MethodId) (args : Array Value) (below : List Frame) (meth : Method) (c : Code) (H : Heap) (locs : List Loc) (ls : Array Slot), Cx Γ μ p s m args meth c → (∀ t : State, t.heap = H → s.WarmedH t.vm → Qo Γ QV args s (.returned v) t) → (∀ q ∈ locs, gA Γ q.base) → W p (gl Γ) e R s m args below meth c H locs (mM μ) (mS μ) (MQ below (Qo Γ QV) args s (mM μ) (mS μ) (gA Γ)) (F0 m pc ls st)) : J Γ μ R Z k pc L st X := by
  intro p e s m args below meth c H locs ls C S P Lr
  refine W.widen hk.1 hk.2 ?_
  intro T hT Y
  obtain ⟨t, a1, b1⟩ := row p e s m args below meth c H locs ls C (fun t ht _ => ⟨⟨v, X, rfl, hq, by rw [ht]; exact P⟩, S.F ht⟩) S.2.2 T hT Y
  exact ⟨t, a1, hz _ _ _ _ b1⟩
theorem J_iret {v : Int32} (hz : RZ Γ μ QV Z) (hd : decode (mC μ) pc = .ok (.ireturn, 1)) (hr : mR μ = some .int) (hk : k.1 ≤ mM μ ∧ k.2 ≤ mS μ) (hq : QV (some (.int v)) X) : J Γ μ R Z k pc L [.int v] X :=
  J_ret hz hk hq (fun p e s m args below meth c H locs ls C q f => W.iret C.1 C.2.1 (C.2.2.2.1.trans hr) q f hd C.2.2.2.2.1)
theorem J_zret {v : Int32} (hz : RZ Γ μ QV Z) (hd : decode (mC μ) pc = .ok (.ireturn, 1)) (hr : mR μ = some .boolean) (hv : v = 0 ∨ v = 1) (hk : k.1 ≤ mM μ ∧ k.2 ≤ mS μ) (hq : QV (some (.int v)) X) : J Γ μ R Z k pc L [.int v] X :=
  J_ret hz hk hq (fun p e s m args below meth c H locs ls C q f => W.zret C.1 C.2.1 (C.2.2.2.1.trans hr) (bool_ok hv).1 q f hd C.2.2.2.2.1)
theorem J_vret (hz : RZ Γ μ QV Z) (hd : decode (mC μ) pc = .ok (.return_, 1)) (hr : mR μ = none) (hk : k.1 ≤ mM μ ∧ k.2 ≤ mS μ) (hq : QV none X) : J Γ μ R Z k pc L [] X :=
  J_ret hz hk hq (fun p e s m args below meth c H locs ls C q f => W.vret C.1 C.2.1 (C.2.2.2.1.trans hr) q f hd C.2.2.2.2.1)
theorem J_aret {v : Value} {n : String} (hz : RZ Γ μ QV Z) (hd : decode (mC μ) pc = .ok (.areturn, 1)) (hr : mR μ = some (.object n)) (hv : v = .null ∨ ∃ a, v = .ref a) (hk : k.1 ≤ mM μ ∧ k.2 ≤ mS μ) (hq : QV (some v) X) : J Γ μ R Z k pc L [v] X :=
  J_ret hz hk hq (fun p e s m args below meth c H locs ls C q f => W.aret C.1 C.2.1 (C.2.2.2.1.trans hr) (Or.inl ⟨n, rfl⟩) hv q f hd C.2.2.2.2.1)
/-- a method's own facts: its code, its class -/
def MOK (ν : MTy) (n : Nat) : Prop := Cond.code (mN ν) (mC ν) (mL ν) (mR ν) ∈ BW ∧ Cond.initialized (mN ν).cls ∈ BW ∧ ((mN ν).cls ≠ "java/lang/invoke/MethodHandle" ∧ (mN ν).cls ≠ "java/lang/invoke/VarHandle" ∧ (parseMethodDescriptor (mN ν).desc).map (fun d => d.parameters.length) = some n)
def MOW (ν : MTy) (n : Nat) : Prop := Cond.codeWith (mN ν) (mC ν) (mL ν) (mR ν) (mH ν) ∈ BW ∧ Cond.initialized (mN ν).cls ∈ BW ∧ ((mN ν).cls ≠ "java/lang/invoke/MethodHandle" ∧ (mN ν).cls ≠ "java/lang/invoke/VarHandle" ∧ (parseMethodDescriptor (mN ν).desc).map (fun d => d.parameters.length) = some n)
theorem gi_of {w : Cond} (h : w ∈ BW) : GoodIn BW (w :: BW) := fun x hx => (List.mem_cons.mp hx).elim (fun e => by rw [e]; exact ⟨h, bw_good _ h⟩) (fun e => ⟨e, bw_good _ e⟩)
theorem St.blind {as : List Value} : FrameBlind (va_Pc as (St Γ X)) := fun a U g mk q => by
  obtain ⟨q1, q2, q3⟩ := q
  have hv : U.WarmedH (U.calling g mk a).vm := State.WarmedH.refl U
  exact ⟨q1, GF.moved q2 hv q2.2.2.2.2.2.2 (fun _ _ _ => rfl), q3⟩
theorem St.at {p : Program} {s : State} {m : MethodId} {args : Array Value} {meth : Method} {c : Code} {H : Heap} {locs : List Loc} {as : List Value} (C : Cx Γ μ p s m args meth c) (S : va_S (gA Γ) s.heap H locs) (P : Rp Γ X H) : ∀ U : State, U.heap = H → s.WarmedH U.vm → va_Pc as (St Γ X) as.toArray U := by
  intro U hU hW
  have G := C.2.2.2.2.2.2.2.2.2
  refine ⟨rfl, GF.moved G hW ?_ (fun q h1 h2 => by rw [hU]; exact S.2.1 q h1 h2), by rw [hU]; exact P⟩
  rw [hU]
  exact Nat.le_trans G.2.2.2.2.2.2 S.1
theorem J_ofrun {ν : MTy} {st0 rest : List Value} {as' : Array Value} {QV' : Option Value → HS → Prop} {QX' : String → HS → Prop}
    (hr : ∀ (p : Program) (e : Env) (s : State) (m : MethodId) (args : Array Value) (below : List Frame) (meth : Method) (c : Code) (H : Heap) (locs : List Loc) (ls : Array Slot), Cx Γ μ p s m args meth c → va_S (gA Γ) s.heap H locs → Rp Γ X H → LR ls (mL μ) L → vx_Run p (gl Γ) e R s m args below meth c H locs k.1 k.2 (mM ν) (mS ν) (F0 m pc ls st0) rest (Qo Γ QV' as') (Xo Γ QX') (gA Γ))
    (kk : ∀ (v : Option Value) (X' : HS), QV' v X' → J Γ μ R Z (k.1 + mM ν, k.2 + mS ν) (pc + 3) L (v.toList ++ rest) X') (kx : ∀ (E : String) (X' : HS), QX' E X' → JX Γ μ R Z E (k.1 + mM ν, k.2 + mS ν) pc L X') : J Γ μ R Z k pc L st0 X := by
  intro p e s m args below meth c H locs ls C S P Lr T hT Y
  rcases hr p e s m args below meth c H locs ls C S P Lr T hT Y with ⟨v, st₀, t, T', Lo, h0, Y', hL, e1, e2, ⟨⟨v', X', hv, hq, hR⟩, hF⟩, st⟩ | ⟨q, st₀, t, T', Lo, E, x, h0, Y', hL, e1, e2, ⟨X', hq, hR, hF⟩, hce, hcv, hcl, st⟩
  · cases hv
    obtain ⟨k1, k2, k3⟩ := vx_keep h0 e1 S (fun _ _ h => h) (fun _ h => h) hL hF
    obtain ⟨t2, a1, b1⟩ := kk v X' hq p e s m args below meth c T'.heap (locs ++ Lo) ls C k3 (by rw [e1]; exact hR) Lr T' rfl Y'
    exact ⟨t2, st t2 a1, b1⟩
  · obtain ⟨k1, k2, k3⟩ := vx_keep h0 e1 S (fun _ _ h => h) (fun _ h => h) hL hF
    obtain ⟨t2, a1, b1⟩ := kx E X' hq p e s m args below meth c T'.heap (locs ++ Lo) ls q x rest C k3 (by rw [e1]; exact hR) Lr (by rw [e1]; exact hce) hcv hcl T' rfl Y'
    exact ⟨t2, st.trans a1, b1⟩
theorem J_ofrunN {ν : MTy} {st0 rest : List Value} {as' : Array Value} {QV' : Option Value → HS → Prop}
    (hr : ∀ (p : Program) (e : Env) (s : State) (m : MethodId) (args : Array Value) (below : List Frame) (meth : Method) (c : Code) (H : Heap) (locs : List Loc) (ls : Array Slot), Cx Γ μ p s m args meth c → va_S (gA Γ) s.heap H locs → Rp Γ X H → LR ls (mL μ) L → va_Run p (gl Γ) e R s m args below meth c H locs k.1 k.2 (mM ν) (mS ν) (F0 m pc ls st0) rest (Qo Γ QV' as') (gA Γ))
    (kk : ∀ (v : Option Value) (X' : HS), QV' v X' → J Γ μ R Z (k.1 + mM ν, k.2 + mS ν) (pc + 3) L (v.toList ++ rest) X') : J Γ μ R Z k pc L st0 X := by
  intro p e s m args below meth c H locs ls C S P Lr T hT Y
  obtain ⟨v, st₀, t, T', Lo, h0, Y', hL, e1, e2, ⟨⟨v', X', hv, hq, hR⟩, hF⟩, st⟩ := hr p e s m args below meth c H locs ls C S P Lr T hT Y
  cases hv
  obtain ⟨k1, k2, k3⟩ := vx_keep h0 e1 S (fun _ _ h => h) (fun _ h => h) hL hF
  obtain ⟨t2, a1, b1⟩ := kk v X' hq p e s m args below meth c T'.heap (locs ++ Lo) ls C k3 (by rw [e1]; exact hR) Lr T' rfl Y'
  exact ⟨t2, st t2 a1, b1⟩
/-- room for a call -/
def RmOk (R : Room) (ν : MTy) (k : Nat × Nat) : Prop := (mD ν + 1 ≤ R.frames ∧ 8 + (mL ν + 11) + 36 * mD ν ≤ R.locals) ∧ (k.1 + mM ν ≤ R.cells ∧ k.2 + mS ν ≤ R.slots)
/-- what a call links: by name -/
def LkV (own : String) (idx : Nat) (ν : MTy) : Prop := Cond.methodLink own idx (mN ν) ∈ BW ∧ Cond.instanceMethod (mN ν) ∈ BW ∧ Cond.selects (mN ν).cls (mN ν) (mN ν) ∈ BW
def LkS (own : String) (idx : Nat) (ν : MTy) : Prop := Cond.methodLink own idx (mN ν) ∈ BW ∧ Cond.static (mN ν) ∈ BW
def LkU (own : String) (idx : Nat) (C owner : String) (x : MethodName) (ν : MTy) : Prop := Cond.methodLink own idx x ∈ BW ∧ Cond.sameMethod x.cls owner x.name x.desc ∈ BW ∧ Cond.selects C x (mN ν) ∈ BW ∧ Cond.instanceMethod (mN ν) ∈ BW ∧ ((Cond.declares ⟨owner, x.name, x.desc⟩ ∈ XW) ∨ mN ν = ⟨owner, x.name, x.desc⟩) ∧ (owner ≠ "java/lang/invoke/MethodHandle" ∧ owner ≠ "java/lang/invoke/VarHandle")
def LkNS (own : String) (idx : Nat) (host : String) (ν : MTy) : Prop := Cond.methodLinkNest own idx (mN ν) host ∈ XW ∧ Cond.static (mN ν) ∈ BW
def LkNI (own : String) (idx : Nat) (host : String) (ν : MTy) : Prop := Cond.methodLinkNest own idx (mN ν) host ∈ XW ∧ Cond.instanceMethod (mN ν) ∈ BW ∧ (mN ν).name = "<init>" ∧ mR ν = none
def LkI (own : String) (idx : Nat) (ν : MTy) : Prop := Cond.methodLink own idx (mN ν) ∈ BW ∧ Cond.instanceMethod (mN ν) ∈ BW ∧ (mN ν).name = "<init>" ∧ mR ν = none
theorem cs_ok {rest : List Value} {m : MethodId} {ls : Array Slot} {st0 : List Value} (h : (rest.map fun v => v.category).sum ≤ 8) : 2 * (F0 m pc ls st0).monitorRoom + (rest.map fun v => v.category).sum ≤ 8 := lv_room h
theorem callB_J {ν : MTy} {n idx : Nat} {p : Program} {s : State} {m : MethodId} {args : Array Value} {meth : Method} {c : Code} (C : Cx Γ μ p s m args meth c) (hM : MOK ν n) (hl : Cond.methodLink (mN μ).cls idx (mN ν) ∈ BW) (hR : RmOk R ν k) : CallB R s args (mN μ).cls idx (mN ν) (mC ν) (mL ν) (mR ν) (.code (mN ν) (mC ν) (mL ν) (mR ν) :: BW) (rm ν) (mM ν) (mS ν) n :=
  callB_of n C.2.2.2.2.2.2.2.2.1 (gi_of hM.1) rfl rfl rfl (C.2.2.2.2.2.2.2.2.1 _ hM.2.1) (C.2.2.2.2.2.2.2.2.1 _ hl) hM.2.2 hR.1
theorem cf_J {p : Program} {s : State} {m : MethodId} {args : Array Value} {meth : Method} {c : Code} (C : Cx Γ μ p s m args meth c) : CallFix p m c (mC μ) (mL μ) s args BW (mN μ).cls := ⟨C.1, C.2.1, C.2.2.1, C.2.2.2.2.2.2.1, C.2.2.2.2.2.2.2.2.1⟩
/-- a call of a method by its name, on an object; it may throw -/
theorem J_callV {ν : MTy} {n idx b cb : Nat} {as rest : List Value} {st0 : List Value} {QV' : Option Value → HS → Prop} {QX' : String → HS → Prop} (hM : MOK ν n) (hl : LkV (mN μ).cls idx ν) (hR : RmOk R ν k) (hb : xK X b = cb) (hcb : cb < 10) (hcc : cN cb = (mN ν).cls) (hn : as.length = n) (hst : st0 = as.reverse ++ .ref b :: rest) (hcat : (rest.map fun v => v.category).sum ≤ 8) (hd : decode (mC μ) pc = .ok (.invokevirtual idx, 3)) (hc : Ct Γ ν (.ref b :: as) X QV' QX')
    (kk : ∀ (v : Option Value) (X' : HS), QV' v X' → J Γ μ R Z (k.1 + mM ν, k.2 + mS ν) (pc + 3) L (v.toList ++ rest) X') (kx : ∀ (E : String) (X' : HS), QX' E X' → JX Γ μ R Z E (k.1 + mM ν, k.2 + mS ν) pc L X') : J Γ μ R Z k pc L st0 X := by
  refine J_ofrun (ν := ν) (as' := (Value.ref b :: as).toArray) (fun p e s m args below meth c H locs ls C S P Lr => ?_) kk kx
  have hr := P.recv C.2.2.2.2.2.2.2.2.2 hcb hb
  rw [hcc] at hr
  exact vx_runV (cf_J C) hc ⟨callB_J C hM hl.1 hR, C.2.2.2.2.2.2.2.2.1 _ hl.2.1, C.2.2.2.2.2.2.2.2.1 _ hl.2.2⟩ ⟨St.blind, hr, St.at C S P⟩ rfl hn Lr.1 hst (cs_ok hcat) hd hR.2
theorem J_callS {ν : MTy} {n idx : Nat} {as rest : List Value} {st0 : List Value} {QV' : Option Value → HS → Prop} {QX' : String → HS → Prop} (hM : MOK ν n) (hl : LkS (mN μ).cls idx ν) (hR : RmOk R ν k) (hn : as.length = n) (hst : st0 = as.reverse ++ rest) (hcat : (rest.map fun v => v.category).sum ≤ 8) (hd : decode (mC μ) pc = .ok (.invokestatic idx, 3)) (hc : Ct Γ ν as X QV' QX')
    (kk : ∀ (v : Option Value) (X' : HS), QV' v X' → J Γ μ R Z (k.1 + mM ν, k.2 + mS ν) (pc + 3) L (v.toList ++ rest) X') (kx : ∀ (E : String) (X' : HS), QX' E X' → JX Γ μ R Z E (k.1 + mM ν, k.2 + mS ν) pc L X') : J Γ μ R Z k pc L st0 X := by
  refine J_ofrun (ν := ν) (as' := as.toArray) (fun p e s m args below meth c H locs ls C S P Lr => ?_) kk kx
  exact vx_runS (cf_J C) hc ⟨callB_J C hM hl.1 hR, C.2.2.2.2.2.2.2.2.1 _ hl.2⟩ ⟨St.blind, St.at C S P⟩ rfl hn Lr.1 hst (cs_ok hcat) hd hR.2
/-- a method with a table of handlers, called by its name -/
theorem J_callSW {ν : MTy} {n idx : Nat} {as rest : List Value} {st0 : List Value} {QV' : Option Value → HS → Prop} {QX' : String → HS → Prop} (hM : MOW ν n) (hl : LkS (mN μ).cls idx ν) (hR : RmOk R ν k) (hn : as.length = n) (hst : st0 = as.reverse ++ rest) (hcat : (rest.map fun v => v.category).sum ≤ 8) (hd : decode (mC μ) pc = .ok (.invokestatic idx, 3)) (hc : Cw Γ ν as X QV' QX')
    (kk : ∀ (v : Option Value) (X' : HS), QV' v X' → J Γ μ R Z (k.1 + mM ν, k.2 + mS ν) (pc + 3) L (v.toList ++ rest) X') (kx : ∀ (E : String) (X' : HS), QX' E X' → JX Γ μ R Z E (k.1 + mM ν, k.2 + mS ν) pc L X') : J Γ μ R Z k pc L st0 X := by
  refine J_ofrun (ν := ν) (as' := as.toArray) (fun p e s m args below meth c H locs ls C S P Lr => ?_) kk kx
  have ht := C.2.2.2.2.2.2.2.2.1
  refine vx_runSX (hh := mH ν) (bytes := mC ν) (maxL := mL ν) (ret := mR ν) (n := n) (index := idx) (cf_J C) hc ⟨⟨rfl, rfl, hR.1.1, hR.1.2, pay_in ht (gi_of hM.1), List.mem_cons_self⟩, ht _ hM.1, ht _ hM.2.1, ⟨hM.2.2.1, hM.2.2.2.1⟩, fun sig h => ?_, ht _ hl.1, ht _ hl.2⟩ ⟨St.blind, St.at C S P⟩ rfl hn Lr.1 hst (cs_ok hcat) hd hR.2
  have h2 := hM.2.2.2.2
  rw [h] at h2
  exact (Option.some.inj h2).symm
theorem J_callVn {ν : MTy} {n idx b cb : Nat} {as rest : List Value} {st0 : List Value} {QV' : Option Value → HS → Prop} (hM : MOK ν n) (hl : LkV (mN μ).cls idx ν) (hR : RmOk R ν k) (hb : xK X b = cb) (hcb : cb < 10) (hcc : cN cb = (mN ν).cls) (hn : as.length = n) (hst : st0 = as.reverse ++ .ref b :: rest) (hcat : (rest.map fun v => v.category).sum ≤ 8) (hd : decode (mC μ) pc = .ok (.invokevirtual idx, 3)) (hc : Cn Γ ν (.ref b :: as) X QV')
    (kk : ∀ (v : Option Value) (X' : HS), QV' v X' → J Γ μ R Z (k.1 + mM ν, k.2 + mS ν) (pc + 3) L (v.toList ++ rest) X') : J Γ μ R Z k pc L st0 X := by
  refine J_ofrunN (ν := ν) (as' := (Value.ref b :: as).toArray) (fun p e s m args below meth c H locs ls C S P Lr => ?_) kk
  have hr := P.recv C.2.2.2.2.2.2.2.2.2 hcb hb
  rw [hcc] at hr
  exact va_runV (cf_J C) hc ⟨callB_J C hM hl.1 hR, C.2.2.2.2.2.2.2.2.1 _ hl.2.1, C.2.2.2.2.2.2.2.2.1 _ hl.2.2⟩ ⟨St.blind, hr, St.at C S P⟩ rfl hn Lr.1 hst (cs_ok hcat) hd hR.2
theorem J_callSn {ν : MTy} {n idx : Nat} {as rest : List Value} {st0 : List Value} {QV' : Option Value → HS → Prop} (hM : MOK ν n) (hl : LkS (mN μ).cls idx ν) (hR : RmOk R ν k) (hn : as.length = n) (hst : st0 = as.reverse ++ rest) (hcat : (rest.map fun v => v.category).sum ≤ 8) (hd : decode (mC μ) pc = .ok (.invokestatic idx, 3)) (hc : Cn Γ ν as X QV')
    (kk : ∀ (v : Option Value) (X' : HS), QV' v X' → J Γ μ R Z (k.1 + mM ν, k.2 + mS ν) (pc + 3) L (v.toList ++ rest) X') : J Γ μ R Z k pc L st0 X := by
  refine J_ofrunN (ν := ν) (as' := as.toArray) (fun p e s m args below meth c H locs ls C S P Lr => ?_) kk
  exact va_runS (cf_J C) hc ⟨callB_J C hM hl.1 hR, C.2.2.2.2.2.2.2.2.1 _ hl.2⟩ ⟨St.blind, St.at C S P⟩ rfl hn Lr.1 hst (cs_ok hcat) hd hR.2
theorem J_callNS {ν : MTy} {n idx : Nat} {host : String} {as rest : List Value} {st0 : List Value} {QV' : Option Value → HS → Prop} (hM : MOK ν n) (hl : LkNS (mN μ).cls idx host ν) (hR : RmOk R ν k) (hn : as.length = n) (hst : st0 = as.reverse ++ rest) (hcat : (rest.map fun v => v.category).sum ≤ 8) (hd : decode (mC μ) pc = .ok (.invokestatic idx, 3)) (hc : Cn Γ ν as X QV')
    (kk : ∀ (v : Option Value) (X' : HS), QV' v X' → J Γ μ R Z (k.1 + mM ν, k.2 + mS ν) (pc + 3) L (v.toList ++ rest) X') : J Γ μ R Z k pc L st0 X := by
  refine J_ofrunN (ν := ν) (as' := as.toArray) (fun p e s m args below meth c H locs ls C S P Lr => ?_) kk
  have ht := C.2.2.2.2.2.2.2.2.1
  have hx := xw_use (args := args) C.2.2.2.2.2.2.2.2.2.2.1 _ hl.1
  refine va_runSN (host := host) (bytes := mC ν) (maxL := mL ν) (ret := mR ν) (n := n) (index := idx) (cf_J C) hc ⟨⟨⟨rfl, rfl, hR.1.1, hR.1.2, pay_in ht (gi_of hM.1), List.mem_cons_self⟩, ht _ hM.1, ht _ hM.2.1, ⟨hM.2.2.1, hM.2.2.2.1⟩, fun sig h => ?_, hx⟩, ht _ hl.2, trivial⟩ ⟨St.blind, St.at C S P⟩ rfl hn Lr.1 hst (cs_ok hcat) hd hR.2
  have h2 := hM.2.2.2.2
  rw [h] at h2
  exact (Option.some.inj h2).symm
theorem J_callNI {ν : MTy} {n idx b : Nat} {host : String} {as rest : List Value} {st0 : List Value} {QV' : Option Value → HS → Prop} (hM : MOK ν n) (hl : LkNI (mN μ).cls idx host ν) (hR : RmOk R ν k) (hn : as.length = n) (hst : st0 = as.reverse ++ .ref b :: rest) (hcat : (rest.map fun v => v.category).sum ≤ 8) (hd : decode (mC μ) pc = .ok (.invokespecial idx, 3)) (hc : Cn Γ ν (.ref b :: as) X QV')
    (kk : ∀ (v : Option Value) (X' : HS), QV' v X' → J Γ μ R Z (k.1 + mM ν, k.2 + mS ν) (pc + 3) L (v.toList ++ rest) X') : J Γ μ R Z k pc L st0 X := by
  refine J_ofrunN (ν := ν) (as' := (Value.ref b :: as).toArray) (fun p e s m args below meth c H locs ls C S P Lr => ?_) kk
  have ht := C.2.2.2.2.2.2.2.2.1
  have hx := xw_use (args := args) C.2.2.2.2.2.2.2.2.2.2.1 _ hl.1
  have hc' := hc
  unfold Cn at hc'
  rw [hl.2.2.2] at hc'
  have hM1 := hM.1
  rw [hl.2.2.2] at hM1
  refine va_runIN (host := host) (bytes := mC ν) (maxL := mL ν) (n := n) (index := idx) (cf_J C) hc' ⟨⟨⟨rfl, rfl, hR.1.1, hR.1.2, pay_in ht (gi_of hM1), List.mem_cons_self⟩, ht _ hM1, ht _ hM.2.1, ⟨hM.2.2.1, hM.2.2.2.1⟩, fun sig h => ?_, hx⟩, hl.2.2.1, ht _ hl.2.1⟩ ⟨St.blind, St.at C S P⟩ rfl hn Lr.1 hst (cs_ok hcat) hd hR.2
  have h2 := hM.2.2.2.2
  rw [h] at h2
  exact (Option.some.inj h2).symm
theorem J_callI {ν : MTy} {n idx b : Nat} {as rest : List Value} {st0 : List Value} {QV' : Option Value → HS → Prop} (hM : MOK ν n) (hl : LkI (mN μ).cls idx ν) (hR : RmOk R ν k) (hn : as.length = n) (hst : st0 = as.reverse ++ .ref b :: rest) (hcat : (rest.map fun v => v.category).sum ≤ 8) (hd : decode (mC μ) pc = .ok (.invokespecial idx, 3)) (hc : Cn Γ ν (.ref b :: as) X QV')
    (kk : ∀ (v : Option Value) (X' : HS), QV' v X' → J Γ μ R Z (k.1 + mM ν, k.2 + mS ν) (pc + 3) L (v.toList ++ rest) X') : J Γ μ R Z k pc L st0 X := by
  refine J_ofrunN (ν := ν) (as' := (Value.ref b :: as).toArray) (fun p e s m args below meth c H locs ls C S P Lr => ?_) kk
  have ht := C.2.2.2.2.2.2.2.2.1
  have hcb := callB_J C hM hl.1 hR
  have hc' := hc
  unfold Cn at hc'
  rw [hl.2.2.2] at hc' hcb
  exact va_runI (cf_J C) hc' ⟨hcb, hl.2.2.1, ht _ hl.2.1⟩ ⟨St.blind, St.at C S P⟩ rfl hn Lr.1 hst (cs_ok hcat) hd hR.2
/-- a call through a class that may only inherit, or declare, what runs -/
theorem J_callU {ν : MTy} {n idx b cb : Nat} {owner : String} {x : MethodName} {as rest : List Value} {st0 : List Value} {QV' : Option Value → HS → Prop} (hM : MOK ν n) (hl : LkU (mN μ).cls idx (cN cb) owner x ν) (hx : (parseMethodDescriptor x.desc).map (fun d => d.parameters.length) = some n) (hR : RmOk R ν k) (hb : xK X b = cb) (hcb : cb < 10) (hn : as.length = n) (hst : st0 = as.reverse ++ .ref b :: rest) (hcat : (rest.map fun v => v.category).sum ≤ 8) (hd : decode (mC μ) pc = .ok (.invokevirtual idx, 3)) (hc : Cn Γ ν (.ref b :: as) X QV')
    (kk : ∀ (v : Option Value) (X' : HS), QV' v X' → J Γ μ R Z (k.1 + mM ν, k.2 + mS ν) (pc + 3) L (v.toList ++ rest) X') : J Γ μ R Z k pc L st0 X := by
  refine J_ofrunN (ν := ν) (as' := (Value.ref b :: as).toArray) (fun p e s m args below meth c H locs ls C S P Lr => ?_) kk
  have ht := C.2.2.2.2.2.2.2.2.1
  have G := C.2.2.2.2.2.2.2.2.2
  have hr := P.recv G hcb hb
  obtain ⟨l1, l2, l3, l4, l5, l6⟩ := hl
  have hdecl : va_Decl s ⟨owner, x.name, x.desc⟩ := by
    rcases l5 with h | h
    · exact va_Decl.abs (G.2.1 _ h)
    · rw [← h]; exact va_Decl.of (ht _ l4) (ht _ hM.1)
  refine va_runU (owner := owner) (x := x) (bytes := mC ν) (maxL := mL ν) (ret := mR ν) (n := n) (index := idx) (cf_J C) hc ⟨⟨rfl, rfl, hR.1.1, hR.1.2, pay_in ht (gi_of hM.1), List.mem_cons_self⟩, ht _ hM.1, ht _ hM.2.1, l6, fun sig h => ?_, ht _ l1, ht _ l2, hdecl, ht _ l3, ht _ l4⟩ ⟨St.blind, hr, St.at C S P⟩ rfl hn Lr.1 hst (cs_ok hcat) hd hR.2
  rw [h] at hx
  exact (Option.some.inj hx).symm
/-- Object's constructor -/
theorem J_objInit {idx a : Nat} {rest : List Value} (hl : Cond.methodLink (mN μ).cls idx Lib.objectInit ∈ BW) (hw : Cond.instanceMethod Lib.objectInit ∈ BW ∧ Cond.code Lib.objectInit ⟨#[0xb1]⟩ 1 none ∈ BW) (hf : 1 ≤ R.frames ∧ (rest.map fun v => v.category).sum + 12 ≤ R.locals) (hd : decode (mC μ) pc = .ok (.invokespecial idx, 3)) (kk : J Γ μ R Z k (pc + 3) L rest X) : J Γ μ R Z k pc L (.ref a :: rest) X := by
  intro p e s m args below meth c H locs ls C S P Lr
  have ht := C.2.2.2.2.2.2.2.2.1
  exact W.objInit C.1 C.2.1 C.2.2.2.2.2.2.1 (ht _ hl) (ht _ hw.1) (ht _ hw.2) rfl (Lr.1.trans C.2.2.1.symm) rfl hd hf.1 (by show 2 * 0 + _ + 12 ≤ _; omega) (kk p e s m args below meth c H locs ls C S P Lr)
theorem J_max {idx : Nat} {x y : Int32} {rest : List Value} (hl : Cond.methodLink (mN μ).cls idx Lib.Math.max.name ∈ BW) (hw : Cond.static Lib.Math.max.name ∈ BW ∧ Cond.initialized "java/lang/Math" ∈ BW ∧ Cond.code Lib.Math.max.name Lib.Math.max.code 2 (some .int) ∈ BW) (hf : 1 ≤ R.frames ∧ (rest.map fun v => v.category).sum + 13 ≤ R.locals) (hk : k.1 ≤ R.cells ∧ k.2 ≤ R.slots) (hd : decode (mC μ) pc = .ok (.invokestatic idx, 3)) (kk : J Γ μ R Z k (pc + 3) L (.int (if x < y then y else x) :: rest) X) : J Γ μ R Z k pc L (.int y :: .int x :: rest) X := by
  intro p e s m args below meth c H locs ls C S P Lr
  have ht := C.2.2.2.2.2.2.2.2.1
  exact va_mmax C.1 C.2.1 (C.2.2.1.trans Lr.1.symm) C.2.2.2.2.2.2.1 (ht _ hl) (ht _ hw.1) (ht _ hw.2.1) (ht _ hw.2.2) hf.1 hf.2 hk.1 hk.2 hd (kk p e s m args below meth c H locs ls C S P Lr)
theorem J_min {idx : Nat} {x y : Int32} {rest : List Value} (hl : Cond.methodLink (mN μ).cls idx Lib.Math.min.name ∈ BW) (hw : Cond.static Lib.Math.min.name ∈ BW ∧ Cond.initialized "java/lang/Math" ∈ BW ∧ Cond.code Lib.Math.min.name Lib.Math.min.code 2 (some .int) ∈ BW) (hf : 1 ≤ R.frames ∧ (rest.map fun v => v.category).sum + 13 ≤ R.locals) (hk : k.1 ≤ R.cells ∧ k.2 ≤ R.slots) (hd : decode (mC μ) pc = .ok (.invokestatic idx, 3)) (kk : J Γ μ R Z k (pc + 3) L (.int (if y < x then y else x) :: rest) X) : J Γ μ R Z k pc L (.int y :: .int x :: rest) X := by
  intro p e s m args below meth c H locs ls C S P Lr
  have ht := C.2.2.2.2.2.2.2.2.1
  exact va_mmin C.1 C.2.1 (C.2.2.1.trans Lr.1.symm) C.2.2.2.2.2.2.1 (ht _ hl) (ht _ hw.1) (ht _ hw.2.1) (ht _ hw.2.2) hf.1 hf.2 hk.1 hk.2 hd (kk p e s m args below meth c H locs ls C S P Lr)
/-- an exception goes on to the caller -/
theorem JX_out {E : String} (hh : mH μ = []) (hk : k.1 ≤ mM μ ∧ k.2 ≤ mS μ) (hq : QX E X) : JX Γ μ R (Zx Γ μ QV QX) E k pc L X := by
  intro p e s m args below meth c H locs ls q x rest C S P Lr h1 h2 h3
  refine vx_out (fun z hz => ?_) C.2.2.2.2.1 h1 h2 h3 (fun t ht _ => ⟨X, hq, by rw [ht]; exact P, S.F ht⟩) S.2.2 hk.1 hk.2
  rw [C.2.2.2.2.2.1, hh] at hz
  exact absurd hz (by simp [tableOf])
end CW
end
section
-- ===== throws, catches, new cells, statics, a method's beginning =====
section NW
variable {Γ : GTy} {μ : MTy} {R : Room} {Z : List Frame → Array Value → State → State → Prop} {k : Nat × Nat} {pc : Nat} {L : List (Option Value)} {st : List Value} {X : HS}
variable {QV : Option Value → HS → Prop} {QX : String → HS → Prop}
theorem Rp.kept {H H1 : Heap} (P : Rp Γ X H) (h : ∀ q : Nat, q < H.size → H1[q]? = H[q]?) : Rp Γ X H1 := ⟨P.1.kept (fun k q hq => h q.1 (P.1 k q hq).lt), P.2⟩
def xNm : List String := ["java/lang/RuntimeException", "java/lang/Exception"]
/-- the words of a throw of E with a text -/
def TW (own E : String) (ik is ic : Nat) : Prop := Cond.classLink own ik E ∈ BW ∧ Cond.initialized E ∈ BW ∧ (∃ (si : Nat) (tx : String), sTx[si]? = some (own, is, tx)) ∧ (∀ w ∈ vx_atS own ic E xNm, w ∈ BW ∨ w ∈ XW) ∧ (∀ w ∈ Cond.classLink own ik E :: Cond.initialized E :: vx_atS own ic E xNm, vx_ot w = true) ∧ Bundle.fit E = true ∧ (∀ n ∈ xNm, Bundle.fit n = true)
theorem J_throw {E : String} {ik is ic : Nat} (hT : TW (mN μ).cls E ik is ic) (hh : mH μ = []) (d0 : decode (mC μ) pc = .ok (.new ik, 3)) (d3 : decode (mC μ) (pc + 3) = .ok (.dup, 1)) (d4 : decode (mC μ) (pc + 4) = .ok (.ldc is, 2)) (d6 : decode (mC μ) (pc + 6) = .ok (.invokespecial ic, 3)) (d9 : decode (mC μ) (pc + 9) = .ok (.athrow, 1))
    (hR : 5 < R.frames ∧ (st.map fun v => v.category).sum + 82 ≤ R.locals ∧ k.1 + 1 ≤ R.cells ∧ k.2 + 6 ≤ R.slots) (hc : k.1 + 1 ≤ mM μ ∧ k.2 + 6 ≤ mS μ) (hq : QX E X) : J Γ μ R (Zx Γ μ QV QX) k pc L st X := by
  intro p e s m args below meth c H locs ls C S P Lr
  obtain ⟨x1, x2, x3, x4, x5, x6, x7, x8, x9, x10⟩ := id C
  obtain ⟨w1, w2, ⟨si, tx, w3⟩, w4, w5, w6, w7⟩ := hT
  have hx := xw_use (args := args) x10.2.1
  exact vx_throwS x1 x2 x10.2.2.2.2.2.1.2.2.2 (names := xNm) x7 w6 w7 (x9 _ w1) (x9 _ w2) (x10.2.2.2.2.1 si _ w3) (fun w hw => (w4 w hw).elim (x9 w) (hx w)) w5 x10.2.2.2.2.2.1.1 x10.2.2.2.2.2.1.2.1 S (Lr.1.trans x3.symm) d0 d3 d4 d6 d9
    (fun z hz => by rw [x6, hh] at hz; exact absurd hz (by simp [tableOf])) hR.1 hR.2.1 hR.2.2.1 hR.2.2.2 x5 (fun t _ h1 h2 => ⟨X, hq, P.kept h2, Nat.le_trans S.1 h1, fun q g1 g2 => (h2 q (Nat.lt_of_lt_of_le g1 S.1)).trans (S.2.1 q g1 g2)⟩) S.2.2 hc.1 hc.2
theorem J_throwW {E : String} {ik is ic : Nat} (hT : TW (mN μ).cls E ik is ic) (hh : mH μ = []) (d0 : decode (mC μ) pc = .ok (.new ik, 3)) (d3 : decode (mC μ) (pc + 3) = .ok (.dup, 1)) (d4 : decode (mC μ) (pc + 4) = .ok (.ldc_w is, 3)) (d7 : decode (mC μ) (pc + 7) = .ok (.invokespecial ic, 3)) (d10 : decode (mC μ) (pc + 10) = .ok (.athrow, 1))
    (hR : 5 < R.frames ∧ (st.map fun v => v.category).sum + 82 ≤ R.locals ∧ k.1 + 1 ≤ R.cells ∧ k.2 + 6 ≤ R.slots) (hc : k.1 + 1 ≤ mM μ ∧ k.2 + 6 ≤ mS μ) (hq : QX E X) : J Γ μ R (Zx Γ μ QV QX) k pc L st X := by
  intro p e s m args below meth c H locs ls C S P Lr
  obtain ⟨x1, x2, x3, x4, x5, x6, x7, x8, x9, x10⟩ := id C
  obtain ⟨w1, w2, ⟨si, tx, w3⟩, w4, w5, w6, w7⟩ := hT
  have hx := xw_use (args := args) x10.2.1
  exact vx_throwSW x1 x2 x10.2.2.2.2.2.1.2.2.2 (names := xNm) x7 w6 w7 (x9 _ w1) (x9 _ w2) (x10.2.2.2.2.1 si _ w3) (fun w hw => (w4 w hw).elim (x9 w) (hx w)) w5 x10.2.2.2.2.2.1.1 x10.2.2.2.2.2.1.2.1 S (Lr.1.trans x3.symm) d0 d3 d4 d7 d10
    (fun z hz => by rw [x6, hh] at hz; exact absurd hz (by simp [tableOf])) hR.1 hR.2.1 hR.2.2.1 hR.2.2.2 x5 (fun t _ h1 h2 => ⟨X, hq, P.kept h2, Nat.le_trans S.1 h1, fun q g1 g2 => (h2 q (Nat.lt_of_lt_of_le g1 S.1)).trans (S.2.1 q g1 g2)⟩) S.2.2 hc.1 hc.2
/-- an exception caught by a row of the method's table -/
theorem JX_catch {E name : String} (pre : List ExceptionTableEntry) (x : ExceptionTableEntry) (suf : List ExceptionTableEntry) (hsplit : tableOf (mH μ) = pre ++ x :: suf) (hpass : ∀ z ∈ pre, covers z pc = false ∨ (z.catchType ≠ 0 ∧ ∃ nm : String, Cond.classLink (mN μ).cls z.catchType nm ∈ BW ∧ (E, nm) ∈ nCL)) (hx : covers x pc = true) (h0 : x.catchType ≠ 0) (hl : Cond.classLink (mN μ).cls x.catchType name ∈ BW) (hc : Cond.castable E name ∈ XW) {hp : Nat} (hpc : x.handlerPc = hp)
    (kk : ∀ q : Nat, J Γ μ R Z k hp L [.ref q] X) : JX Γ μ R Z E k pc L X := by
  intro p e s m args below meth c H locs ls q x0 rest C S P Lr h1 h2 h3
  obtain ⟨x1, x2, x3, x4, x5, x6, x7, x8, x9, x10⟩ := id C
  subst hpc
  exact vx_catch x7 pre x suf (x6.trans hsplit) (fun z hz => (hpass z hz).imp id (fun ⟨a, nm, b, d⟩ => ⟨a, nm, x9 _ b, x10.2.2.2.2.2.1.2.2.1 _ d⟩)) hx h0 (x9 _ hl) (xw_use x10.2.1 _ hc) h1 h2 h3 (kk q p e s m args below meth c H locs ls C S P Lr)
-- new cells
theorem df_all : ∀ c, c < 10 → ∀ j, j < nf c → defaultValue (ft c j) = if rf c j = true then .null else .int 0 := by decide +kernel
theorem ce_new {cy : Nat → ClassId} {X X' : HS} {q : Nat} {x : va_E} (hx : ce cy X' q = x) (hk : ∀ b, b ≠ q → xK X' b = xK X b) (hg : ∀ c j b, b ≠ q → gv X' c j b = gv X c j b) (hn : ∀ b, b ≠ q → xn X' b = xn X b) (hA : ∀ b, b ≠ q → xA X' b = xA X b) (hJ : ∀ b, b ≠ q → xJ X' b = xJ X b) (hP : ∀ b, b ≠ q → xP X' b = xP X b) : ∀ b, va_up (ce cy X) q x b = ce cy X' b := by
  intro b
  by_cases hb : b = q
  · subst hb
    rw [va_up_self, hx]
  · rw [va_up_ne _ _ hb]
    have e : fl X' (xK X b) b = fl X (xK X b) b := by
      unfold fl
      exact List.map_congr_left (fun j _ => hg _ j b hb)
    unfold ce
    rw [hk b hb, e, hn b hb, hA b hb, hJ b hb, hP b hb]
theorem Rp.new {H1 H : Heap} (P : Rp Γ X H) {X' : HS} {q : Nat} {x : va_E} (hl : xL X' = xL X ++ [q]) (hx : ∀ b, va_up (ce (gc Γ) X) q x b = ce (gc Γ) X' b) (hK : ∀ a, a ≠ q → xK X' a = xK X a) (b1 : va_P (gD Γ) vwCl (va_pl (xL X) (ce (gc Γ) X) ++ [(q, x)]) H1) (b2 : va_D (gA Γ) (va_pl (xL X) (ce (gc Γ) X) ++ [(q, x)])) : q ∉ xL X ∧ xK X q = 99 ∧ Rp Γ X' H1 := by
  have hq : q ∉ xL X := va_pl_fresh2 (X := []) b2
  have e : va_pl (xL X) (ce (gc Γ) X) ++ [(q, x)] = va_pl (xL X') (ce (gc Γ) X') := by
    rw [va_pl_push hq, va_pl_congr hx, hl]
  rw [e] at b1 b2
  refine ⟨hq, P.2.2 q hq, b1, b2, fun a ha => ?_⟩
  rw [hl, List.mem_append, List.mem_singleton] at ha
  have h1 : a ∉ xL X := fun h => ha (Or.inl h)
  have h2 : a ≠ q := fun h => ha (Or.inr h)
  rw [hK a h2]
  exact P.2.2 a h1
theorem J_new {c idx : Nat} (hc : c < 10) (hl : Cond.classLink (mN μ).cls idx (cN c) ∈ BW) (hi : Cond.instantiable (cN c) (nf c) ∈ BW) (h0 : Cond.initialized (cN c) ∈ BW) (hR : k.1 + 1 ≤ R.cells ∧ k.2 + nf c ≤ R.slots) (hd : decode (mC μ) pc = .ok (.new idx, 3))
    (kk : ∀ q : Nat, q ∉ xL X → xK X q = 99 → J Γ μ R Z (k.1 + 1, k.2 + nf c) (pc + 3) L (.ref q :: st) (nO X q c)) : J Γ μ R Z k pc L st X := by
  intro p e s m args below meth c' H locs ls C S P Lr
  obtain ⟨x1, x2, x3, x4, x5, x6, x7, x8, x9, x10⟩ := id C
  obtain ⟨C1, T1, g1, g2, g3, g4⟩ := cl_all c hc
  have e9 : C1 = cN c := by
    have h0 : c = 0 ∨ c = 1 ∨ c = 2 ∨ c = 3 ∨ c = 4 ∨ c = 5 ∨ c = 6 ∨ c = 7 ∨ c = 8 ∨ c = 9 := by omega
    rcases h0 with rfl | rfl | rfl | rfl | rfl | rfl | rfl | rfl | rfl | rfl <;> cases g1 <;> rfl
  subst e9
  refine va_new (ci := c) (fs := (List.range (nf c)).map (fun j => if rf c j = true then Value.null else .int 0)) (C := cN c) (T := T1) (N := nf c) x1 x2 x9 g2 (ft c) g3 x7 (x9 _ hl) (x9 _ hi) (x9 _ h0) x10.1 P.1 P.2.1 S (fun q hq => Nat.le_trans x10.2.2.2.2.2.2 hq) g1 (fun j hj => ?_) hR.1 hR.2 hd (fun q H1 b1 b2 b3 => ?_)
  · rw [df_all c hc j hj]
    simp [vp_V, hj]
  · have hx : ce (gc Γ) (nO X q c) q = .inr (c, (List.range (nf c)).map (fun j => if rf c j = true then Value.null else .int 0)) := by
      rw [ce_obj hc (show xK (nO X q c) q = c from va_up_self _ _ _)]
      refine congrArg (fun l => Sum.inr (c, l)) ?_
      unfold fl
      apply List.map_congr_left
      intro j hj
      simp [gv, nO, nX, xR, xI, va_rf]
    have hg : ∀ c' j b, b ≠ q → gv (nO X q c) c' j b = gv X c' j b := fun c' j b hb => by simp [gv, nO, nX, xR, xI, hb]
    obtain ⟨h1, h2, h3⟩ := P.new (X' := nO X q c) rfl (ce_new hx (fun b hb => va_up_ne _ _ hb) hg (fun b hb => va_up_ne _ _ hb) (fun b hb => va_up_ne _ _ hb) (fun b hb => va_up_ne _ _ hb) (fun b hb => va_up_ne _ _ hb)) (fun b hb => va_up_ne _ _ hb) b1 b2
    exact kk q h1 h2 p e s m args below meth c' H1 locs ls C b3 h3 Lr
theorem tyK_eq {s : State} {cA : ClassId} {ty : FieldType} {t0 : Nat} {cB : ClassId} {tys : List (ClassId × FieldType)} {D : va_G} {cl : List vw_C} (h1 : va_K D cl tys s) (h2 : tys[t0]? = some (cB, ty)) (h3 : va_K D cl (tys ++ [(cA, ty)]) s) : cA = cB := by
  have a1 := (h1.2 t0 _ h2).2
  have a2 := (h3.2 tys.length (cA, ty) (by rw [List.getElem?_append_right (Nat.le_refl _), Nat.sub_self]; rfl)).2
  cases ty with
  | object C =>
    obtain ⟨_, _, _, _, _, e1⟩ := a1
    obtain ⟨_, _, _, _, _, e2⟩ := a2
    exact Option.some.inj (e2.symm.trans e1)
  | _ => exact Option.some.inj ((show s.vm.findClass _ = some cA from a2).symm.trans (show s.vm.findClass _ = some cB from a1))
theorem J_newI {n : Int32} {N : Nat} (hw : Cond.arrayClass .int ∈ BW) (hn : n = nI N) (hN : N < 2 ^ 27) (hR : k.1 + 1 ≤ R.cells ∧ k.2 + N ≤ R.slots) (hd : decode (mC μ) pc = .ok (.newarray .int, 2)) (kk : ∀ q : Nat, q ∉ xL X → xK X q = 99 → J Γ μ R Z (k.1 + 1, k.2 + N) (pc + 2) L (.ref q :: st) (nA X q 10 N (fun _ => 0))) : J Γ μ R Z k pc L (.int n :: st) X := by
  intro p e s m args below meth c' H locs ls C S P Lr
  obtain ⟨x1, x2, x3, x4, x5, x6, x7, x8, x9, x10⟩ := id C
  subst hn
  refine va_newa (atype := .int) (ty := .int) (a0 := (N, .inl (fun _ => 0))) x1 x2 (x9 _ hw) rfl x10.1 P.1 P.2.1 S (fun q hq => Nat.le_trans x10.2.2.2.2.2.2 hq) (fun cA => rfl) (nI_pos (by omega)) (nI_clamp (by omega)) (by show N * 4 ≤ _; omega) hR.1 hR.2 hd (fun q cA H1 b0 b1 b2 b3 => ?_)
  have ec := tyK_eq x10.1 (ty_at (gc Γ)).1 b0
  subst ec
  have hx : ce (gc Γ) (nA X q 10 N (fun _ => 0)) q = .inl (gc Γ 10, (N, .inl (fun _ => 0))) := by
    rw [ce_arr (by decide) (show xK (nA X q 10 N (fun _ => 0)) q = 10 from va_up_self _ _ _), if_pos (by decide)]
    simp [nA, nX, xn, xA, va_up_self]
  obtain ⟨h1, h2, h3⟩ := P.new (X' := nA X q 10 N (fun _ => 0)) rfl (ce_new hx (fun b hb => va_up_ne _ _ hb) (fun c' j b hb => by simp [gv, nA, nJ, nP, nX, xR, xI, hb]) (fun b hb => va_up_ne _ _ hb) (fun b hb => va_up_ne _ _ hb) (fun b hb => va_up_ne _ _ hb) (fun b hb => va_up_ne _ _ hb)) (fun b hb => va_up_ne _ _ hb) b1 b2
  exact kk q h1 h2 p e s m args below meth c' H1 locs ls C b3 h3 Lr
theorem J_newZ {n : Int32} {N : Nat} (hw : Cond.arrayClass .boolean ∈ BW) (hn : n = nI N) (hN : N < 2 ^ 27) (hR : k.1 + 1 ≤ R.cells ∧ k.2 + N ≤ R.slots) (hd : decode (mC μ) pc = .ok (.newarray .boolean, 2)) (kk : ∀ q : Nat, q ∉ xL X → xK X q = 99 → J Γ μ R Z (k.1 + 1, k.2 + N) (pc + 2) L (.ref q :: st) (nA X q 11 N (fun _ => 0))) : J Γ μ R Z k pc L (.int n :: st) X := by
  intro p e s m args below meth c' H locs ls C S P Lr
  obtain ⟨x1, x2, x3, x4, x5, x6, x7, x8, x9, x10⟩ := id C
  subst hn
  refine va_newa (atype := .boolean) (ty := .boolean) (a0 := (N, .inl (fun _ => 0))) x1 x2 (x9 _ hw) rfl x10.1 P.1 P.2.1 S (fun q hq => Nat.le_trans x10.2.2.2.2.2.2 hq) (fun cA => rfl) (nI_pos (by omega)) (nI_clamp (by omega)) (by show N * 1 ≤ _; omega) hR.1 hR.2 hd (fun q cA H1 b0 b1 b2 b3 => ?_)
  have ec := tyK_eq x10.1 (ty_at (gc Γ)).2.1 b0
  subst ec
  have hx : ce (gc Γ) (nA X q 11 N (fun _ => 0)) q = .inl (gc Γ 11, (N, .inl (fun _ => 0))) := by
    rw [ce_arr (by decide) (show xK (nA X q 11 N (fun _ => 0)) q = 11 from va_up_self _ _ _), if_pos (by decide)]
    simp [nA, nX, xn, xA, va_up_self]
  obtain ⟨h1, h2, h3⟩ := P.new (X' := nA X q 11 N (fun _ => 0)) rfl (ce_new hx (fun b hb => va_up_ne _ _ hb) (fun c' j b hb => by simp [gv, nA, nJ, nP, nX, xR, xI, hb]) (fun b hb => va_up_ne _ _ hb) (fun b hb => va_up_ne _ _ hb) (fun b hb => va_up_ne _ _ hb) (fun b hb => va_up_ne _ _ hb)) (fun b hb => va_up_ne _ _ hb) b1 b2
  exact kk q h1 h2 p e s m args below meth c' H1 locs ls C b3 h3 Lr
theorem J_newJ {n : Int32} {N : Nat} (hw : Cond.arrayClass .long ∈ BW) (hn : n = nI N) (hN : N < 2 ^ 26) (hR : k.1 + 1 ≤ R.cells ∧ k.2 + N ≤ R.slots) (hd : decode (mC μ) pc = .ok (.newarray .long, 2)) (kk : ∀ q : Nat, q ∉ xL X → xK X q = 99 → J Γ μ R Z (k.1 + 1, k.2 + N) (pc + 2) L (.ref q :: st) (nJ X q 18 N)) : J Γ μ R Z k pc L (.int n :: st) X := by
  intro p e s m args below meth c' H locs ls C S P Lr
  obtain ⟨x1, x2, x3, x4, x5, x6, x7, x8, x9, x10⟩ := id C
  subst hn
  refine va_newa (atype := .long) (ty := .long) (a0 := (N, .inr (.inl (fun _ => 0)))) x1 x2 (x9 _ hw) rfl x10.1 P.1 P.2.1 S (fun q hq => Nat.le_trans x10.2.2.2.2.2.2 hq) (fun cA => rfl) (nI_pos (by omega)) (nI_clamp (by omega)) (by show N * 8 ≤ _; omega) hR.1 hR.2 hd (fun q cA H1 b0 b1 b2 b3 => ?_)
  have ec := tyK_eq x10.1 (ty_at (gc Γ)).2.2.1 b0
  subst ec
  have hx : ce (gc Γ) (nJ X q 18 N) q = .inl (gc Γ 18, (N, .inr (.inl (fun _ => 0)))) := by
    rw [ce_arr (by decide) (show xK (nJ X q 18 N) q = 18 from va_up_self _ _ _), if_neg (by decide), if_pos rfl]
    simp [nJ, nX, xn, xJ, va_up_self]
  obtain ⟨h1, h2, h3⟩ := P.new (X' := nJ X q 18 N) rfl (ce_new hx (fun b hb => va_up_ne _ _ hb) (fun c' j b hb => by simp [gv, nA, nJ, nP, nX, xR, xI, hb]) (fun b hb => va_up_ne _ _ hb) (fun b hb => va_up_ne _ _ hb) (fun b hb => va_up_ne _ _ hb) (fun b hb => va_up_ne _ _ hb)) (fun b hb => va_up_ne _ _ hb) b1 b2
  exact kk q h1 h2 p e s m args below meth c' H1 locs ls C b3 h3 Lr
theorem J_newP {n : Int32} {N c idx : Nat} (hc : 12 ≤ c ∧ c < 18) (hl : Cond.classLink (mN μ).cls idx (eC c) ∈ BW) (hw : Cond.arrayOver (.object (eC c)) ∈ XW) (hn : n = nI N) (hN : N < 2 ^ 27) (hR : k.1 + 1 ≤ R.cells ∧ k.2 + N ≤ R.slots) (hd : decode (mC μ) pc = .ok (.anewarray idx, 3)) (kk : ∀ q : Nat, q ∉ xL X → xK X q = 99 → J Γ μ R Z (k.1 + 1, k.2 + N) (pc + 3) L (.ref q :: st) (nP X q c N)) : J Γ μ R Z k pc L (.int n :: st) X := by
  intro p e s m args below meth c' H locs ls C S P Lr
  obtain ⟨x1, x2, x3, x4, x5, x6, x7, x8, x9, x10⟩ := id C
  subst hn
  refine va_newq (C := eC c) (N' := N) x1 x2 x7 (x9 _ hl) (x10.2.1 _ hw) x10.1 P.1 P.2.1 S (fun q hq => Nat.le_trans x10.2.2.2.2.2.2 hq) (nI_pos (by omega)) (nI_clamp (by omega)) (by omega) hR.1 hR.2 hd (fun q cA H1 b0 b1 b2 b3 => ?_)
  have ec := tyK_eq x10.1 ((ty_at (gc Γ)).2.2.2 c hc.1 hc.2) b0
  subst ec
  have hx : ce (gc Γ) (nP X q c N) q = .inl (gc Γ c, N, .inr (.inr (.inr (.inr (fun _ => none))))) := by
    rw [ce_arr (by omega) (show xK (nP X q c N) q = c from va_up_self _ _ _), if_neg (by omega), if_neg (by omega)]
    simp [nP, nX, xn, xP, va_up_self]
  obtain ⟨h1, h2, h3⟩ := P.new (X' := nP X q c N) rfl (ce_new hx (fun b hb => va_up_ne _ _ hb) (fun c' j b hb => by simp [gv, nA, nJ, nP, nX, xR, xI, hb]) (fun b hb => va_up_ne _ _ hb) (fun b hb => va_up_ne _ _ hb) (fun b hb => va_up_ne _ _ hb) (fun b hb => va_up_ne _ _ hb)) (fun b hb => va_up_ne _ _ hb) b1 b2
  exact kk q h1 h2 p e s m args below meth c' H1 locs ls C b3 h3 Lr
-- statics
theorem J_getst {i idx : Nat} (hi : i < 4) (hl : Cond.fieldLink (mN μ).cls idx "BaulkHall" (nSt i) "[I" ∈ BW ∨ ∃ host, Cond.fieldLinkNest (mN μ).cls idx "BaulkHall" (nSt i) "[I" host ∈ XW) (hd : decode (mC μ) pc = .ok (.getstatic idx, 3)) (kk : J Γ μ R Z k (pc + 3) L (.ref (gt Γ i).1 :: st) X) : J Γ μ R Z k pc L st X := by
  intro p e s m args below meth c' H locs ls C S P Lr
  obtain ⟨x1, x2, x3, x4, x5, x6, x7, x8, x9, x10⟩ := id C
  have K := kk p e s m args below meth c' H locs ls C S P Lr
  rcases hl with hl | ⟨host, hl⟩
  · exact va_gets x1 x2 (x10.2.2.2.1 i hi).1 S x7 (x9 _ hl) (fun _ h => h) hd K
  · exact va_getsN x1 x2 (x10.2.2.2.1 i hi).1 S x7 (xw_use x10.2.1 _ hl) (fun _ h => h) hd K
theorem J_sald {i j : Nat} {x : Int32} (hi : i < 5) (hx : x = nI j) (hj : j < (gt Γ i).2.1) (h2 : j < 2 ^ 31) (hd : decode (mC μ) pc = .ok (.iaload, 1)) (kk : J Γ μ R Z k (pc + 1) L (.int ((gt Γ i).2.2 j) :: st) X) : J Γ μ R Z k pc L (.int x :: .ref (gt Γ i).1 :: st) X := by
  intro p e s m args below meth c' H locs ls C S P Lr
  obtain ⟨x1, x2, x3, x4, x5, x6, x7, x8, x9, x10⟩ := id C
  have K := kk p e s m args below meth c' H locs ls C S P Lr
  subst hx
  have h := x10.2.2.1 i hi
  exact va_sld x1 x2 h.1 (Nat.lt_of_lt_of_le h.2 x10.2.2.2.2.2.2) (Nat.not_le.mpr h.2) S (ix_in hj h2) hd (by rw [nI_clamp h2]; exact K)
theorem J_slen {i : Nat} {v : Int32} (hi : i < 5) (hv : nI (gt Γ i).2.1 = v) (hd : decode (mC μ) pc = .ok (.arraylength, 1)) (kk : J Γ μ R Z k (pc + 1) L (.int v :: st) X) : J Γ μ R Z k pc L (.ref (gt Γ i).1 :: st) X := by
  intro p e s m args below meth c' H locs ls C S P Lr
  obtain ⟨x1, x2, x3, x4, x5, x6, x7, x8, x9, x10⟩ := id C
  subst hv
  have h := x10.2.2.1 i hi
  exact va_slen x1 x2 h.1 (Nat.lt_of_lt_of_le h.2 x10.2.2.2.2.2.2) (Nat.not_le.mpr h.2) S hd (kk p e s m args below meth c' H locs ls C S P Lr)
/-- a static table of ints, cloned -/
theorem J_clone {i idx : Nat} (hi : i < 4) (hl : Cond.methodLink (mN μ).cls idx ⟨"[I", "clone", "()Ljava/lang/Object;"⟩ ∈ BW) (hw : Cond.sameMethod "[I" "java/lang/Object" "clone" "()Ljava/lang/Object;" ∈ BW ∧ Cond.native ⟨"java/lang/Object", "clone", "()Ljava/lang/Object;"⟩ ∈ BW ∧ Cond.instanceMethod ⟨"java/lang/Object", "clone", "()Ljava/lang/Object;"⟩ ∈ BW ∧ Cond.selects "[I" ⟨"[I", "clone", "()Ljava/lang/Object;"⟩ ⟨"java/lang/Object", "clone", "()Ljava/lang/Object;"⟩ ∈ BW ∧ Cond.castable "[I" "java/lang/Cloneable" ∈ XW) (hf : 1 ≤ R.frames ∧ (st.map fun v => v.category).sum + 14 ≤ R.locals) (hR : k.1 + 1 ≤ R.cells ∧ k.2 + (gt Γ i).2.1 ≤ R.slots) (hd : decode (mC μ) pc = .ok (.invokevirtual idx, 3))
    (kk : ∀ q : Nat, q ∉ xL X → xK X q = 99 → J Γ μ R Z (k.1 + 1, k.2 + (gt Γ i).2.1) (pc + 3) L (.ref q :: st) (nA X q 10 (gt Γ i).2.1 (gt Γ i).2.2)) : J Γ μ R Z k pc L (.ref (gt Γ i).1 :: st) X := by
  intro p e s m args below meth c' H locs ls C S P Lr T hT Y
  obtain ⟨x1, x2, x3, x4, x5, x6, x7, x8, x9, x10⟩ := id C
  obtain ⟨⟨scr, g1, g2, g3, g4, g5⟩, g6⟩ := x10.2.2.1 i (by omega)
  obtain ⟨-, scr', g7, g8⟩ := x10.2.2.2.1 i hi
  cases g1.symm.trans g7
  have hKi := x10.1.2 0 _ (ty_at (gc Γ)).1
  have hnm : s.vm.findClass "[I" = some (gc Γ 10) := hKi.2
  have ecl : scr.cls = gc Γ 10 := Option.some.inj (g8.symm.trans hnm)
  have hH : H[(gt Γ i).1]? = some scr := by rw [S.2.1 _ (Nat.lt_of_lt_of_le g6 x10.2.2.2.2.2.2) (Nat.not_le.mpr g6)]; exact g1
  have hcellT : T.heap[(gt Γ i).1]? = some scr := by rw [hT]; exact hH
  obtain ⟨c0, t0', f1, f2, f3⟩ := Cond.castable_spec (xw_use (args := args) x10.2.1 _ hw.2.2.2.2)
  cases hnm.symm.trans f1
  obtain ⟨-, kA, hkA, comp, hkind⟩ := State.isArrayOf_alike Y.warmed.alike (hKi.1 0 (fun _ => .null))
  obtain ⟨-, kS, hkS, compS, hkindS⟩ := hKi.1 0 (fun _ => .null)
  have hsl : scr.slots = (arrV (gc Γ 10) (gt Γ i).2.1 (fun j => .int ((gt Γ i).2.2 j))).slots := by
    apply Array.ext_getElem?
    intro j
    by_cases hj : j < (gt Γ i).2.1
    · rw [g5 j hj, arrV_read _ _ hj]
    · rw [Array.getElem?_eq_none (by omega), Array.getElem?_eq_none (by rw [arrV_size]; omega)]
  obtain ⟨vm', Y', st'⟩ := Y.cloneArray x1 x7 (x9 _ hl) (x9 _ hw.1) (x9 _ hw.2.1) (x9 _ hw.2.2.1) (x9 _ hw.2.2.2.1) (a := (gt Γ i).1) (cell := scr) hcellT (fun k h => by have := g2.1 k; exact this h) g3 (by rw [ecl]; exact hnm) f2 (by rw [ecl]; exact f3)
    (fun j v hv => by
      rw [ecl]
      have hk' : T.vm.classes[gc Γ 10]? = some kA := hkA
      have hjv : fits .int v = true := by
        by_cases hj : j < (gt Γ i).2.1
        · rw [g5 j hj] at hv; cases hv; rfl
        · rw [Array.getElem?_eq_none (by omega)] at hv; cases hv
      simpa [State.fitsSlot, State.slotType?, hk', hkind] using hjv)
    (g := F0 m pc ls (.ref (gt Γ i).1 :: st)) rfl (Lr.1.trans x3.symm) rfl (by rw [x2]; exact hd) hf.1 (by show 2 * 0 + _ + 14 ≤ _; omega) hR.1 (by rw [g4]; exact hR.2) (hloader := by rw [ecl]; exact Vm.clonesLoader_of_array hkS hkindS)
  have hcellE : ({ cls := scr.cls, slots := scr.slots } : Cell) = arrV (gc Γ 10) (gt Γ i).2.1 (fun j => .int ((gt Γ i).2.2 j)) := by
    rw [ecl, hsl]; rfl
  rw [hcellE, g4] at Y'
  generalize hH1 : H.push (arrV (gc Γ 10) (gt Γ i).2.1 (fun j => .int ((gt Γ i).2.2 j))) = H1
  have z1 : H1.size = H.size + 1 := by rw [← hH1, Array.size_push]
  have e1 : H1[H.size]? = some (arrV (gc Γ 10) (gt Γ i).2.1 (fun j => .int ((gt Γ i).2.2 j))) := by rw [← hH1, Array.getElem?_push_size]
  have o1 : ∀ q : Nat, q < H.size → H1[q]? = H[q]? := fun q hq => by rw [← hH1, Array.getElem?_push, if_neg (Nat.ne_of_lt hq)]
  have S1 : va_S (gA Γ) s.heap H1 locs := ⟨Nat.le_trans S.1 (by omega), fun y h1 h2 => (o1 y (Nat.lt_of_lt_of_le h1 S.1)).trans (S.2.1 y h1 h2), S.2.2⟩
  have b1 : va_P (gD Γ) vwCl (va_pl (xL X) (ce (gc Γ) X) ++ [(H.size, .inl (gc Γ 10, (gt Γ i).2.1, .inl (gt Γ i).2.2))]) H1 := (P.1.kept (fun k q hq => o1 q.1 (P.1 k q hq).lt)).app (fun k y hy => by
    have hz : k < 1 := (List.getElem?_eq_some_iff.mp hy).1
    rw [show k = 0 by omega] at hy
    cases hy
    exact e1)
  have b2 : va_D (gA Γ) (va_pl (xL X) (ce (gc Γ) X) ++ [(H.size, .inl (gc Γ 10, (gt Γ i).2.1, .inl (gt Γ i).2.2))]) := P.2.1.push P.1 rfl (Nat.le_trans x10.2.2.2.2.2.2 S.1)
  have hx : ce (gc Γ) (nA X H.size 10 (gt Γ i).2.1 (gt Γ i).2.2) H.size = .inl (gc Γ 10, (gt Γ i).2.1, .inl (gt Γ i).2.2) := by
    rw [ce_arr (by decide) (show xK (nA X H.size 10 (gt Γ i).2.1 (gt Γ i).2.2) H.size = 10 from va_up_self _ _ _), if_pos (by decide)]
    simp [nA, nX, xn, xA, va_up_self]
  obtain ⟨h1, h2, h3⟩ := P.new (X' := nA X H.size 10 (gt Γ i).2.1 (gt Γ i).2.2) rfl (ce_new hx (fun b hb => va_up_ne _ _ hb) (fun c' j b hb => by simp [gv, nA, nJ, nP, nX, xR, xI, hb]) (fun b hb => va_up_ne _ _ hb) (fun b hb => va_up_ne _ _ hb) (fun b hb => va_up_ne _ _ hb) (fun b hb => va_up_ne _ _ hb)) (fun b hb => va_up_ne _ _ hb) b1 b2
  obtain ⟨t, q1, q2⟩ := kk H.size h1 h2 p e s m args below meth c' H1 locs ls C S1 h3 Lr ((T.setVm vm').pushCell (arrV (gc Γ 10) (gt Γ i).2.1 (fun j => .int ((gt Γ i).2.2 j)))) (by rw [← hH1, ← hT]; rfl) Y'
  refine ⟨t, st' t ?_, q2⟩
  rw [hcellE, hT]
  exact q1
theorem J_castI {idx a : Nat} (hk : xK X a = 10) (hl : Cond.classLink (mN μ).cls idx "[I" ∈ BW) (hd : decode (mC μ) pc = .ok (.checkcast idx, 3)) (kk : J Γ μ R Z k (pc + 3) L (.ref a :: st) X) : J Γ μ R Z k pc L (.ref a :: st) X := by
  intro p e s m args below meth c' H locs ls C S P Lr
  obtain ⟨x1, x2, x3, x4, x5, x6, x7, x8, x9, x10⟩ := id C
  obtain ⟨q, -, hq⟩ := P.arr (by decide) hk (by decide)
  have hnm : s.vm.findClass "[I" = some (gc Γ 10) := (x10.1.2 0 _ (ty_at (gc Γ)).1).2
  exact va_castA x1 x2 x7 (x9 _ hl) P.1 q hq hnm hd (kk p e s m args below meth c' H locs ls C S P Lr)
-- ===== a method's beginning =====
def L0 (as : List Value) (n : Nat) : List (Option Value) := as.map some ++ List.replicate (n - as.length) none
theorem args_at : ∀ (as : List Value), (∀ v ∈ as, v.category = 1) → ∀ (b i : Nat) (v : Value), as[i]? = some v → (b + i, v) ∈ lv_args b as
  | [], _, b, i, v, h => by simp at h
  | a :: as, hc, b, i, v, h => by
    have ha : a.category = 1 := hc a List.mem_cons_self
    cases i with
    | zero =>
      rw [List.getElem?_cons_zero] at h
      cases h
      exact List.mem_cons_self
    | succ i =>
      rw [List.getElem?_cons_succ] at h
      have := args_at as (fun v hv => hc v (List.mem_cons_of_mem _ hv)) (b + 1) i v h
      refine List.mem_cons_of_mem _ ?_
      rw [if_neg (by rw [ha]; decide), show b + (i + 1) = b + 1 + i by omega]
      exact this
theorem sl_len (as : List Value) (hc : ∀ v ∈ as, v.category = 1) : (lg_sl as).length = as.length := by
  induction as with
  | nil => rfl
  | cons a as ih =>
    have ha : a.category = 1 := hc a List.mem_cons_self
    show ((if a.category = 2 then [Slot.val a, .second] else [.val a]) ++ lg_sl as).length = _
    rw [if_neg (by rw [ha]; decide), List.length_append, ih (fun v hv => hc v (List.mem_cons_of_mem _ hv))]
    simp; omega
theorem L0_LR (as : List Value) (n : Nat) (hn : as.length ≤ n) (hc : ∀ v ∈ as, v.category = 1) : LR ((lg_sl as ++ List.replicate (n - (lg_sl as).length) Slot.unset).toArray) n (L0 as n) := by
  have h := lv_entry as (n := n) (by rw [sl_len as hc]; exact hn)
  refine ⟨h.1, h.2.1, fun i v hi => ?_⟩
  have hl : i < as.length := by
    by_cases q : i < as.length
    · exact q
    · rw [L0, List.getElem?_append_right (by simp; omega)] at hi
      rw [List.getElem?_replicate] at hi
      split at hi <;> simp at hi
  have hv : as[i]? = some v := by
    rw [L0, List.getElem?_append_left (by simpa using hl), List.getElem?_map] at hi
    cases ha : as[i]? with
    | none => rw [ha] at hi; simp at hi
    | some w => rw [ha] at hi; simpa using hi
  refine ⟨h.2.2 (i, v) ?_, hc v (List.mem_of_getElem? hv)⟩
  have := args_at as hc 0 i v hv
  rwa [Nat.zero_add] at this
theorem Ct_of {as : List Value} (hh : mH μ = []) (hp : plainName (mN μ).cls = true) (hn : as.length ≤ mL μ) (hc : ∀ v ∈ as, v.category = 1) (h : J Γ μ (rm μ) (Zx Γ μ QV QX) (0, 0) 0 (L0 as (mL μ)) [] X) : Ct Γ μ as X QV QX := by
  refine vx_ofW (cc := mC μ) (maxL := mL μ) (ret := mR μ) hp rfl ?_
  intro p e s m args below meth c s₁ B hml ht hP
  obtain ⟨rfl, hG, hR⟩ := hP
  have hts : ∀ w ∈ (Cond.code (mN μ) (mC μ) (mL μ) (mR μ) :: BW), w.before as.toArray s = true := atoms_spec B.pre
  rw [lg_entry_eq]
  refine h p e s m as.toArray below meth c s.heap [] _ ⟨B.exec, B.bytes, hml, B.returns, B.notSynchronized, ?_, findClass_of_methodNamed B.named, (name_of_methodNamed B.named B.method).1, fun w hw => hts w (List.mem_cons_of_mem _ hw), hG⟩ va_S.rf hR (L0_LR as _ hn hc)
  rw [hh]
  exact List.eq_nil_iff_forall_not_mem.mpr (fun x hx => ht x hx)
theorem Cn_of {as : List Value} (hh : mH μ = []) (hp : plainName (mN μ).cls = true) (hn : as.length ≤ mL μ) (hc : ∀ v ∈ as, v.category = 1) (h : J Γ μ (rm μ) (Zn Γ μ QV) (0, 0) 0 (L0 as (mL μ)) [] X) : Cn Γ μ as X QV := by
  unfold Cn Met
  refine MetFree.of_bodyS (code := mC μ) (maxLocals := mL μ) (ret := mR μ) hp ?_ ?_
  · intro args s m h hn
    obtain ⟨meth, c, h1, h2, h3, h4, h5, h6, -, -⟩ := Cond.code_spec hn (atoms_spec (ws := .code (mN μ) (mC μ) (mL μ) (mR μ) :: BW) h _ List.mem_cons_self)
    exact ⟨meth, c, h1, h2, h3, h4, h5, h6⟩
  · intro p e s m args below meth c s₁ B hml hP _
    have hh0 : s₁.heap = s.heap := by rw [B.state]; rfl
    have ht : c.exceptionTable.toList = [] := by
      obtain ⟨meth9, c9, h1, h2, -, -, -, -, h7, -⟩ := Cond.code_spec B.named (atoms_spec (ws := .code (mN μ) (mC μ) (mL μ) (mR μ) :: BW) B.pre _ List.mem_cons_self)
      cases Option.some.inj (h1.symm.trans B.method)
      cases Option.some.inj (h2.symm.trans (Stand.of_body B).code)
      rw [Array.isEmpty_iff.mp h7]
    obtain ⟨rfl, hG, hR⟩ := hP
    have hts : ∀ w ∈ (Cond.code (mN μ) (mC μ) (mL μ) (mR μ) :: BW), w.before as.toArray s = true := atoms_spec B.pre
    have K := h p e s m as.toArray below meth c s.heap [] _ ⟨B.exec, B.bytes, hml, B.returns, B.notSynchronized, by rw [hh]; exact ht, findClass_of_methodNamed B.named, (name_of_methodNamed B.named B.method).1, fun w hw => hts w (List.mem_cons_of_mem _ hw), hG⟩ va_S.rf hR (L0_LR as _ hn hc)
    rw [← lg_entry_eq] at K
    obtain ⟨t, a1, o, b1, b2, b3⟩ := K s₁ hh0 (Stand.of_body B)
    exact ⟨t, o, a1, b1, b2, ⟨b3.1, b3.2⟩⟩
theorem Cw_of {as : List Value} (hp : plainName (mN μ).cls = true) (hn : as.length ≤ mL μ) (hc : ∀ v ∈ as, v.category = 1) (h : J Γ μ (rm μ) (Zx Γ μ QV QX) (0, 0) 0 (L0 as (mL μ)) [] X) : Cw Γ μ as X QV QX := by
  refine vx_ofWH (cc := mC μ) (maxL := mL μ) (ret := mR μ) (hh := mH μ) hp rfl ?_
  intro p e s m args below meth c s₁ B hml hP
  obtain ⟨rfl, hG, hR⟩ := hP
  have hts : ∀ w ∈ (Cond.codeWith (mN μ) (mC μ) (mL μ) (mR μ) (mH μ) :: BW), w.before as.toArray s = true := atoms_spec B.pre
  rw [lg_entry_eq]
  exact h p e s m as.toArray below meth c s.heap [] _ ⟨B.exec, B.bytes, hml, B.returns, B.notSynchronized, vx_table (x := mN μ) B (hts _ List.mem_cons_self), findClass_of_methodNamed B.named, (name_of_methodNamed B.named B.method).1, fun w hw => hts w (List.mem_cons_of_mem _ hw), hG⟩ va_S.rf hR (L0_LR as _ hn hc)
end NW
end
section
-- ===== THE SECOND LAYER: ids of our choosing in place of addresses; α tells the address of each =====
def cv (α : Nat → Nat) : Value → Value := fun v => match v with
  | .ref a => .ref (α a)
  | v => v
def lm (α : Nat → Nat) (L : List (Option Value)) : List (Option Value) := L.map (Option.map (cv α))
def sm (α : Nat → Nat) (st : List Value) : List Value := st.map (cv α)
def sid (i : Nat) : Nat := 1000000000 + i
theorem cv_cat (α : Nat → Nat) (v : Value) : (cv α v).category = v.category := by cases v <;> rfl
theorem sm_cat (α : Nat → Nat) (st : List Value) : (sm α st).map (fun v => v.category) = st.map (fun v => v.category) := by
  simp [sm, List.map_map, Function.comp_def, cv_cat]
theorem lm_at {α : Nat → Nat} {L : List (Option Value)} {i : Nat} {v : Value} (h : L[i]? = some (some v)) : (lm α L)[i]? = some (some (cv α v)) := by
  simp [lm, h]
theorem lm_set (α : Nat → Nat) (L : List (Option Value)) (i : Nat) (v : Value) : (lm α L).set i (some (cv α v)) = lm α (L.set i (some v)) := by
  simp [lm, List.map_set]
/-- X holds Y, each id at its address -/
def CR (Γ : GTy) (α : Nat → Nat) (Y X : HS) : Prop :=
  (∀ a, a ∈ xL Y → ∀ b, b ∈ xL Y → α a = α b → a = b) ∧ xL X = (xL Y).map α ∧
  (∀ a, a ∈ xL Y → xK X (α a) = xK Y a ∧ xn X (α a) = xn Y a ∧ (∀ c k, xI X c k (α a) = xI Y c k a) ∧ (∀ c k, xR X c k (α a) = (xR Y c k a).map α) ∧ (∀ i, xA X (α a) i = xA Y a i) ∧ (∀ i, xJ X (α a) i = xJ Y a i) ∧ (∀ i, xP X (α a) i = (xP Y a i).map α)) ∧
  (∀ a, a ∉ xL Y ↔ xK Y a = 99) ∧ (∀ i, i < 5 → α (sid i) = (gt Γ i).1) ∧ (∀ a, a ∈ xL Y → a < 1000000000) ∧
  (∀ a, a ∈ xL Y → (∀ c k r, xR Y c k a = some r → r ∈ xL Y) ∧ (∀ i r, xP Y a i = some r → r ∈ xL Y))
theorem CR.mem {Γ : GTy} {α : Nat → Nat} {Y X : HS} (h : CR Γ α Y X) {a : Nat} (hk : xK Y a ≠ 99) : a ∈ xL Y := by
  by_cases q : a ∈ xL Y
  · exact q
  · exact absurd ((h.2.2.2.1 a).mp q) hk
theorem CR.K {Γ : GTy} {α : Nat → Nat} {Y X : HS} (h : CR Γ α Y X) {a c : Nat} (hk : xK Y a = c) (hc : c ≠ 99) : xK X (α a) = c := by
  rw [(h.2.2.1 a (h.mem (by rw [hk]; exact hc))).1, hk]
/-- from α0 at Y0 on to α at Y: if nothing is made, the same; else the same on what there was -/
def Ext (al : Bool) (α0 : Nat → Nat) (Y0 : HS) (α : Nat → Nat) (Y : HS) : Prop := if al = true then (∀ a, xK Y0 a ≠ 99 → α a = α0 a ∧ xK Y a ≠ 99) else (α = α0 ∧ xK Y = xK Y0)
theorem Ext.rf {al : Bool} {α : Nat → Nat} {Y : HS} : Ext al α Y α Y := by
  cases al
  · exact ⟨rfl, rfl⟩
  · exact fun a h => ⟨rfl, h⟩
theorem Ext.trans {al : Bool} {α0 α1 α2 : Nat → Nat} {Y0 Y1 Y2 : HS} {al1 : Bool} (h1 : Ext al α0 Y0 α1 Y1) (h2 : Ext al1 α1 Y1 α2 Y2) (hl : al1 = true → al = true) : Ext al α0 Y0 α2 Y2 := by
  cases al1
  · obtain ⟨rfl, e⟩ := h2
    cases al
    · exact ⟨h1.1, e.trans h1.2⟩
    · exact fun a h => ⟨(h1 a h).1, by rw [e]; exact (h1 a h).2⟩
  · have := hl rfl
    subst this
    exact fun a h => ⟨((h2 a (h1 a h).2).1).trans (h1 a h).1, (h2 a (h1 a h).2).2⟩
theorem Ext.same {al : Bool} {α0 α : Nat → Nat} {Y0 Y Y1 : HS} (h : Ext al α0 Y0 α Y) (e : xK Y1 = xK Y) : Ext al α0 Y0 α Y1 := by
  cases al
  · exact ⟨h.1, e.trans h.2⟩
  · exact fun a h1 => ⟨(h a h1).1, by rw [e]; exact (h a h1).2⟩
abbrev WTy : Type := (Nat → Nat) → HS → List Frame → Array Value → State → State → Prop
/-- THE JUDGEMENT over ids -/
def G (Γ : GTy) (μ : MTy) (R : Room) (W : WTy) (k : Nat × Nat) (pc : Nat) (L : List (Option Value)) (st : List Value) (Y : HS) : Prop :=
  ∀ (α0 : Nat → Nat) (Y0 : HS) (α : Nat → Nat) (X : HS), CR Γ α Y X → Ext (mA μ) α0 Y0 α Y → J Γ μ R (W α0 Y0) k pc (lm α L) (sm α st) X
def GX (Γ : GTy) (μ : MTy) (R : Room) (W : WTy) (E : String) (k : Nat × Nat) (pc : Nat) (L : List (Option Value)) (Y : HS) : Prop :=
  ∀ (α0 : Nat → Nat) (Y0 : HS) (α : Nat → Nat) (X : HS), CR Γ α Y X → Ext (mA μ) α0 Y0 α Y → JX Γ μ R (W α0 Y0) E k pc (lm α L) X
def QVc (Γ : GTy) (al : Bool) (α0 : Nat → Nat) (Y0 : HS) (QV : Option Value → HS → Prop) : Option Value → HS → Prop := fun v X' => ∃ (α : Nat → Nat) (Y : HS) (u : Option Value), v = u.map (cv α) ∧ QV u Y ∧ CR Γ α Y X' ∧ Ext al α0 Y0 α Y
def QXc (Γ : GTy) (al : Bool) (α0 : Nat → Nat) (Y0 : HS) (QX : String → HS → Prop) : String → HS → Prop := fun E X' => ∃ (α : Nat → Nat) (Y : HS), QX E Y ∧ CR Γ α Y X' ∧ Ext al α0 Y0 α Y
/-- contracts over ids -/
def Tt (Γ : GTy) (ν : MTy) (as : List Value) (Y : HS) (QV : Option Value → HS → Prop) (QX : String → HS → Prop) : Prop := ∀ (α : Nat → Nat) (X : HS), CR Γ α Y X → Ct Γ ν (sm α as) X (QVc Γ (mA ν) α Y QV) (QXc Γ (mA ν) α Y QX)
def Tn (Γ : GTy) (ν : MTy) (as : List Value) (Y : HS) (QV : Option Value → HS → Prop) : Prop := ∀ (α : Nat → Nat) (X : HS), CR Γ α Y X → Cn Γ ν (sm α as) X (QVc Γ (mA ν) α Y QV)
def Tw (Γ : GTy) (ν : MTy) (as : List Value) (Y : HS) (QV : Option Value → HS → Prop) (QX : String → HS → Prop) : Prop := ∀ (α : Nat → Nat) (X : HS), CR Γ α Y X → Cw Γ ν (sm α as) X (QVc Γ (mA ν) α Y QV) (QXc Γ (mA ν) α Y QX)
def Vt (Γ : GTy) (μ : MTy) (QV : Option Value → HS → Prop) (QX : String → HS → Prop) : WTy := fun α0 Y0 => Zx Γ μ (QVc Γ (mA μ) α0 Y0 QV) (QXc Γ (mA μ) α0 Y0 QX)
def Vn (Γ : GTy) (μ : MTy) (QV : Option Value → HS → Prop) : WTy := fun α0 Y0 => Zn Γ μ (QVc Γ (mA μ) α0 Y0 QV)
section GW
variable {Γ : GTy} {μ : MTy} {R : Room} {W : WTy} {k : Nat × Nat} {pc : Nat} {L : List (Option Value)} {st : List Value} {Y : HS}
variable {QV : Option Value → HS → Prop} {QX : String → HS → Prop}
theorem Tt_of {as : List Value} (hh : mH μ = []) (hp : plainName (mN μ).cls = true) (hn : as.length ≤ mL μ) (hc : ∀ v ∈ as, v.category = 1) (h : G Γ μ (rm μ) (Vt Γ μ QV QX) (0, 0) 0 (L0 as (mL μ)) [] Y) : Tt Γ μ as Y QV QX := by
  intro α X hC
  refine Ct_of hh hp (by simpa [sm] using hn) (fun v hv => ?_) ?_
  · obtain ⟨u, hu, rfl⟩ := List.mem_map.mp hv
    rw [cv_cat]; exact hc u hu
  · have e : L0 (sm α as) (mL μ) = lm α (L0 as (mL μ)) := by simp [L0, lm, sm, List.map_map, Function.comp_def]
    rw [e]
    exact h α Y α X hC Ext.rf
theorem Tn_of {as : List Value} (hh : mH μ = []) (hp : plainName (mN μ).cls = true) (hn : as.length ≤ mL μ) (hc : ∀ v ∈ as, v.category = 1) (h : G Γ μ (rm μ) (Vn Γ μ QV) (0, 0) 0 (L0 as (mL μ)) [] Y) : Tn Γ μ as Y QV := by
  intro α X hC
  refine Cn_of hh hp (by simpa [sm] using hn) (fun v hv => ?_) ?_
  · obtain ⟨u, hu, rfl⟩ := List.mem_map.mp hv
    rw [cv_cat]; exact hc u hu
  · have e : L0 (sm α as) (mL μ) = lm α (L0 as (mL μ)) := by simp [L0, lm, sm, List.map_map, Function.comp_def]
    rw [e]
    exact h α Y α X hC Ext.rf
theorem Tw_of {as : List Value} (hp : plainName (mN μ).cls = true) (hn : as.length ≤ mL μ) (hc : ∀ v ∈ as, v.category = 1) (h : G Γ μ (rm μ) (Vt Γ μ QV QX) (0, 0) 0 (L0 as (mL μ)) [] Y) : Tw Γ μ as Y QV QX := by
  intro α X hC
  refine Cw_of hp (by simpa [sm] using hn) (fun v hv => ?_) ?_
  · obtain ⟨u, hu, rfl⟩ := List.mem_map.mp hv
    rw [cv_cat]; exact hc u hu
  · have e : L0 (sm α as) (mL μ) = lm α (L0 as (mL μ)) := by simp [L0, lm, sm, List.map_map, Function.comp_def]
    rw [e]
    exact h α Y α X hC Ext.rf
theorem G_weak {L' : List (Option Value)} (h : ∀ (i : Nat) (v : Value), L'[i]? = some (some v) → L[i]? = some (some v)) (kk : G Γ μ R W k pc L' st Y) : G Γ μ R W k pc L st Y := by
  intro α0 Y0 α X C E p e s m args below meth c H locs ls Cx S P Lr
  refine kk α0 Y0 α X C E p e s m args below meth c H locs ls Cx S P ⟨Lr.1, Lr.2.1, fun i v hi => ?_⟩
  simp only [lm, List.getElem?_map] at hi
  cases hL : L'[i]? with
  | none => rw [hL] at hi; simp at hi
  | some x =>
    cases x with
    | none => rw [hL] at hi; simp at hi
    | some u =>
      rw [hL] at hi
      simp at hi
      subst hi
      exact Lr.2.2 i _ (lm_at (h i u hL))
theorem G_iconst {n : Int} {v : Int32} (hd : decode (mC μ) pc = .ok (.iconst n, 1)) (hv : Int32.ofInt n = v) (kk : G Γ μ R W k (pc + 1) L (.int v :: st) Y) : G Γ μ R W k pc L st Y :=
  fun α0 Y0 α X C E => J_iconst hd hv (kk α0 Y0 α X C E)
theorem G_bipush {n : Int} {v : Int32} (hd : decode (mC μ) pc = .ok (.bipush n, 2)) (hv : (Int8.ofInt n).toInt32 = v) (kk : G Γ μ R W k (pc + 2) L (.int v :: st) Y) : G Γ μ R W k pc L st Y :=
  fun α0 Y0 α X C E => J_bipush hd hv (kk α0 Y0 α X C E)
theorem G_sipush {n : Int} {v : Int32} (hd : decode (mC μ) pc = .ok (.sipush n, 3)) (hv : (Int16.ofInt n).toInt32 = v) (kk : G Γ μ R W k (pc + 3) L (.int v :: st) Y) : G Γ μ R W k pc L st Y :=
  fun α0 Y0 α X C E => J_sipush hd hv (kk α0 Y0 α X C E)
theorem G_lconst {n : Fin 2} {v : Int64} (hd : decode (mC μ) pc = .ok (.lconst n, 1)) (hv : Int64.ofNat (n : Nat) = v) (kk : G Γ μ R W k (pc + 1) L (.long v :: st) Y) : G Γ μ R W k pc L st Y :=
  fun α0 Y0 α X C E => J_lconst hd hv (kk α0 Y0 α X C E)
theorem G_null (hd : decode (mC μ) pc = .ok (.aconst_null, 1)) (kk : G Γ μ R W k (pc + 1) L (.null :: st) Y) : G Γ μ R W k pc L st Y :=
  fun α0 Y0 α X C E => J_null hd (kk α0 Y0 α X C E)
theorem G_iload_n {n : Fin 4} {x : Int32} (hd : decode (mC μ) pc = .ok (.iload_n n, 1)) (hl : L[(n : Nat)]? = some (some (.int x))) (kk : G Γ μ R W k (pc + 1) L (.int x :: st) Y) : G Γ μ R W k pc L st Y :=
  fun α0 Y0 α X C E => J_iload_n hd (lm_at hl) (kk α0 Y0 α X C E)
theorem G_iload {i : Nat} {x : Int32} (hd : decode (mC μ) pc = .ok (.iload i, 2)) (hl : L[i]? = some (some (.int x))) (kk : G Γ μ R W k (pc + 2) L (.int x :: st) Y) : G Γ μ R W k pc L st Y :=
  fun α0 Y0 α X C E => J_iload hd (lm_at hl) (kk α0 Y0 α X C E)
theorem G_aload_n {n : Fin 4} {x : Nat} (hd : decode (mC μ) pc = .ok (.aload_n n, 1)) (hl : L[(n : Nat)]? = some (some (.ref x))) (kk : G Γ μ R W k (pc + 1) L (.ref x :: st) Y) : G Γ μ R W k pc L st Y :=
  fun α0 Y0 α X C E => J_aload_n hd (lm_at hl) (kk α0 Y0 α X C E)
theorem G_aload {i : Nat} {x : Nat} (hd : decode (mC μ) pc = .ok (.aload i, 2)) (hl : L[i]? = some (some (.ref x))) (kk : G Γ μ R W k (pc + 2) L (.ref x :: st) Y) : G Γ μ R W k pc L st Y :=
  fun α0 Y0 α X C E => J_aload hd (lm_at hl) (kk α0 Y0 α X C E)
theorem G_aload_nN {n : Fin 4} (hd : decode (mC μ) pc = .ok (.aload_n n, 1)) (hl : L[(n : Nat)]? = some (some (.null))) (kk : G Γ μ R W k (pc + 1) L (.null :: st) Y) : G Γ μ R W k pc L st Y :=
  fun α0 Y0 α X C E => J_aload_nN hd (lm_at hl) (kk α0 Y0 α X C E)
theorem G_aloadN {i : Nat} (hd : decode (mC μ) pc = .ok (.aload i, 2)) (hl : L[i]? = some (some (.null))) (kk : G Γ μ R W k (pc + 2) L (.null :: st) Y) : G Γ μ R W k pc L st Y :=
  fun α0 Y0 α X C E => J_aloadN hd (lm_at hl) (kk α0 Y0 α X C E)
theorem G_istore_n {n : Fin 4} {x : Int32} (hd : decode (mC μ) pc = .ok (.istore_n n, 1)) (hn : (n : Nat) < mL μ) (kk : G Γ μ R W k (pc + 1) (L.set (n : Nat) (some (.int x))) st Y) : G Γ μ R W k pc L (.int x :: st) Y :=
  fun α0 Y0 α X C E => J_istore_n hd hn (by have h := kk α0 Y0 α X C E; rw [← lm_set] at h; exact h)
theorem G_istore {i : Nat} {x : Int32} (hd : decode (mC μ) pc = .ok (.istore i, 2)) (hn : i < mL μ) (kk : G Γ μ R W k (pc + 2) (L.set i (some (.int x))) st Y) : G Γ μ R W k pc L (.int x :: st) Y :=
  fun α0 Y0 α X C E => J_istore hd hn (by have h := kk α0 Y0 α X C E; rw [← lm_set] at h; exact h)
theorem G_astore_n {n : Fin 4} {x : Nat} (hd : decode (mC μ) pc = .ok (.astore_n n, 1)) (hn : (n : Nat) < mL μ) (kk : G Γ μ R W k (pc + 1) (L.set (n : Nat) (some (.ref x))) st Y) : G Γ μ R W k pc L (.ref x :: st) Y :=
  fun α0 Y0 α X C E => J_astore_n hd hn (by have h := kk α0 Y0 α X C E; rw [← lm_set] at h; exact h)
theorem G_astore {i : Nat} {x : Nat} (hd : decode (mC μ) pc = .ok (.astore i, 2)) (hn : i < mL μ) (kk : G Γ μ R W k (pc + 2) (L.set i (some (.ref x))) st Y) : G Γ μ R W k pc L (.ref x :: st) Y :=
  fun α0 Y0 α X C E => J_astore hd hn (by have h := kk α0 Y0 α X C E; rw [← lm_set] at h; exact h)
theorem G_astore_nN {n : Fin 4} (hd : decode (mC μ) pc = .ok (.astore_n n, 1)) (hn : (n : Nat) < mL μ) (kk : G Γ μ R W k (pc + 1) (L.set (n : Nat) (some (.null))) st Y) : G Γ μ R W k pc L (.null :: st) Y :=
  fun α0 Y0 α X C E => J_astore_nN hd hn (by have h := kk α0 Y0 α X C E; rw [← lm_set] at h; exact h)
theorem G_astoreN {i : Nat} (hd : decode (mC μ) pc = .ok (.astore i, 2)) (hn : i < mL μ) (kk : G Γ μ R W k (pc + 2) (L.set i (some (.null))) st Y) : G Γ μ R W k pc L (.null :: st) Y :=
  fun α0 Y0 α X C E => J_astoreN hd hn (by have h := kk α0 Y0 α X C E; rw [← lm_set] at h; exact h)
theorem G_iinc {i : Nat} {n : Int} {x v : Int32} (hd : decode (mC μ) pc = .ok (.iinc i n, 3)) (hl : L[i]? = some (some (.int x))) (hv : x + Int32.ofInt n = v) (hn : i < mL μ) (kk : G Γ μ R W k (pc + 3) (L.set i (some (.int v))) st Y) : G Γ μ R W k pc L st Y :=
  fun α0 Y0 α X C E => J_iinc hd (lm_at hl) hv hn (by have h := kk α0 Y0 α X C E; rw [← lm_set] at h; exact h)
theorem G_iadd {x y : Int32} (hd : decode (mC μ) pc = .ok (.iadd, 1)) (kk : G Γ μ R W k (pc + 1) L (.int (x + y) :: st) Y) : G Γ μ R W k pc L (.int y :: .int x :: st) Y :=
  fun α0 Y0 α X C E => J_iadd hd (kk α0 Y0 α X C E)
theorem G_isub {x y : Int32} (hd : decode (mC μ) pc = .ok (.isub, 1)) (kk : G Γ μ R W k (pc + 1) L (.int (x - y) :: st) Y) : G Γ μ R W k pc L (.int y :: .int x :: st) Y :=
  fun α0 Y0 α X C E => J_isub hd (kk α0 Y0 α X C E)
theorem G_imul {x y : Int32} (hd : decode (mC μ) pc = .ok (.imul, 1)) (kk : G Γ μ R W k (pc + 1) L (.int (x * y) :: st) Y) : G Γ μ R W k pc L (.int y :: .int x :: st) Y :=
  fun α0 Y0 α X C E => J_imul hd (kk α0 Y0 α X C E)
theorem G_iand {x y : Int32} (hd : decode (mC μ) pc = .ok (.iand, 1)) (kk : G Γ μ R W k (pc + 1) L (.int (x &&& y) :: st) Y) : G Γ μ R W k pc L (.int y :: .int x :: st) Y :=
  fun α0 Y0 α X C E => J_iand hd (kk α0 Y0 α X C E)
theorem G_ior {x y : Int32} (hd : decode (mC μ) pc = .ok (.ior, 1)) (kk : G Γ μ R W k (pc + 1) L (.int (x ||| y) :: st) Y) : G Γ μ R W k pc L (.int y :: .int x :: st) Y :=
  fun α0 Y0 α X C E => J_ior hd (kk α0 Y0 α X C E)
theorem G_ishl {x y : Int32} (hd : decode (mC μ) pc = .ok (.ishl, 1)) (kk : G Γ μ R W k (pc + 1) L (.int (x <<< (y &&& 31)) :: st) Y) : G Γ μ R W k pc L (.int y :: .int x :: st) Y :=
  fun α0 Y0 α X C E => J_ishl hd (kk α0 Y0 α X C E)
theorem G_ishr {x y : Int32} (hd : decode (mC μ) pc = .ok (.ishr, 1)) (kk : G Γ μ R W k (pc + 1) L (.int (x >>> (y &&& 31)) :: st) Y) : G Γ μ R W k pc L (.int y :: .int x :: st) Y :=
  fun α0 Y0 α X C E => J_ishr hd (kk α0 Y0 α X C E)
theorem G_idiv {x y : Int32} (hd : decode (mC μ) pc = .ok (.idiv, 1)) (hne : ¬ y = 0) (kk : G Γ μ R W k (pc + 1) L (.int (x / y) :: st) Y) : G Γ μ R W k pc L (.int y :: .int x :: st) Y :=
  fun α0 Y0 α X C E => J_idiv hd hne (kk α0 Y0 α X C E)
theorem G_irem {x y : Int32} (hd : decode (mC μ) pc = .ok (.irem, 1)) (hne : ¬ y = 0) (kk : G Γ μ R W k (pc + 1) L (.int (x - x / y * y) :: st) Y) : G Γ μ R W k pc L (.int y :: .int x :: st) Y :=
  fun α0 Y0 α X C E => J_irem hd hne (kk α0 Y0 α X C E)
theorem G_ineg {x : Int32} (hd : decode (mC μ) pc = .ok (.ineg, 1)) (kk : G Γ μ R W k (pc + 1) L (.int (-x) :: st) Y) : G Γ μ R W k pc L (.int x :: st) Y :=
  fun α0 Y0 α X C E => J_ineg hd (kk α0 Y0 α X C E)
theorem G_i2l {x : Int32} (hd : decode (mC μ) pc = .ok (.i2l, 1)) (kk : G Γ μ R W k (pc + 1) L (.long x.toInt64 :: st) Y) : G Γ μ R W k pc L (.int x :: st) Y :=
  fun α0 Y0 α X C E => J_i2l hd (kk α0 Y0 α X C E)
theorem G_lcmp {x y : Int64} (hd : decode (mC μ) pc = .ok (.lcmp, 1)) (kk : G Γ μ R W k (pc + 1) L (.int (lg_cmp x y) :: st) Y) : G Γ μ R W k pc L (.long y :: .long x :: st) Y :=
  fun α0 Y0 α X C E => J_lcmp hd (kk α0 Y0 α X C E)
theorem G_dup {v : Value} (hd : decode (mC μ) pc = .ok (.dup, 1)) (hv : v.category = 1) (kk : G Γ μ R W k (pc + 1) L (v :: v :: st) Y) : G Γ μ R W k pc L (v :: st) Y :=
  fun α0 Y0 α X C E => J_dup hd (by rw [cv_cat]; exact hv) (kk α0 Y0 α X C E)
theorem G_dup2 {v u : Value} (hd : decode (mC μ) pc = .ok (.dup2, 1)) (hv : v.category = 1) (hu : u.category = 1) (kk : G Γ μ R W k (pc + 1) L (v :: u :: v :: u :: st) Y) : G Γ μ R W k pc L (v :: u :: st) Y :=
  fun α0 Y0 α X C E => J_dup2 hd (by rw [cv_cat]; exact hv) (by rw [cv_cat]; exact hu) (kk α0 Y0 α X C E)
theorem G_pop {v : Value} (hd : decode (mC μ) pc = .ok (.pop, 1)) (hv : v.category = 1) (kk : G Γ μ R W k (pc + 1) L st Y) : G Γ μ R W k pc L (v :: st) Y :=
  fun α0 Y0 α X C E => J_pop hd (by rw [cv_cat]; exact hv) (kk α0 Y0 α X C E)
theorem nI_sub {a b : Nat} (h : b ≤ a) : nI a - nI b = nI (a - b) := pk_sub h
theorem G_iaddN {a b : Nat} (hd : decode (mC μ) pc = .ok (.iadd, 1)) (kk : G Γ μ R W k (pc + 1) L (.int (nI (a + b)) :: st) Y) : G Γ μ R W k pc L (.int (nI b) :: .int (nI a) :: st) Y :=
  G_iadd hd (by rw [nI_add a b]; exact kk)
theorem G_imulN {a b : Nat} (hd : decode (mC μ) pc = .ok (.imul, 1)) (kk : G Γ μ R W k (pc + 1) L (.int (nI (a * b)) :: st) Y) : G Γ μ R W k pc L (.int (nI b) :: .int (nI a) :: st) Y :=
  G_imul hd (by rw [pk_mul a b]; exact kk)
theorem G_isubN {a b : Nat} (h : b ≤ a) (hd : decode (mC μ) pc = .ok (.isub, 1)) (kk : G Γ μ R W k (pc + 1) L (.int (nI (a - b)) :: st) Y) : G Γ μ R W k pc L (.int (nI b) :: .int (nI a) :: st) Y :=
  G_isub hd (by rw [pk_sub h]; exact kk)
theorem G_idivN {a b : Nat} (ha : a < 2 ^ 31) (h0 : 0 < b) (hb : b < 2 ^ 31) (hd : decode (mC μ) pc = .ok (.idiv, 1)) (kk : G Γ μ R W k (pc + 1) L (.int (nI (a / b)) :: st) Y) : G Γ μ R W k pc L (.int (nI b) :: .int (nI a) :: st) Y :=
  G_idiv hd (nI_ne0 h0 hb) (by rw [pk_div ha h0 hb]; exact kk)
theorem G_iremN {a b : Nat} (ha : a < 2 ^ 31) (h0 : 0 < b) (hb : b < 2 ^ 31) (hd : decode (mC μ) pc = .ok (.irem, 1)) (kk : G Γ μ R W k (pc + 1) L (.int (nI (a % b)) :: st) Y) : G Γ μ R W k pc L (.int (nI b) :: .int (nI a) :: st) Y :=
  G_irem hd (nI_ne0 h0 hb) (by rw [pk_rem ha h0 hb]; exact kk)
theorem G_iincN {i : Nat} {a : Nat} (hd : decode (mC μ) pc = .ok (.iinc i 1, 3)) (hl : L[i]? = some (some (.int (nI a)))) (hn : i < mL μ) (kk : G Γ μ R W k (pc + 3) (L.set i (some (.int (nI (a + 1))))) st Y) : G Γ μ R W k pc L st Y :=
  G_iinc hd hl (show nI a + Int32.ofInt 1 = nI (a + 1) from nI_1 a) hn kk
theorem G_if_eq {x : Int32} {off : Int} {tgt : Nat} (hd : decode (mC μ) pc = .ok (.ifCond .eq off, 3)) (ht : (pc : Int) + off = (tgt : Int)) (kt : x = 0 → G Γ μ R W k tgt L st Y) (kf : ¬ x = 0 → G Γ μ R W k (pc + 3) L st Y) : G Γ μ R W k pc L (.int x :: st) Y :=
  fun α0 Y0 α X C E => J_if_eq hd ht (fun h => kt h α0 Y0 α X C E) (fun h => kf h α0 Y0 α X C E)
theorem G_icmp_eq {x y : Int32} {off : Int} {tgt : Nat} (hd : decode (mC μ) pc = .ok (.if_icmp .eq off, 3)) (ht : (pc : Int) + off = (tgt : Int)) (kt : x = y → G Γ μ R W k tgt L st Y) (kf : ¬ x = y → G Γ μ R W k (pc + 3) L st Y) : G Γ μ R W k pc L (.int y :: .int x :: st) Y :=
  fun α0 Y0 α X C E => J_icmp_eq hd ht (fun h => kt h α0 Y0 α X C E) (fun h => kf h α0 Y0 α X C E)
theorem G_if_ne {x : Int32} {off : Int} {tgt : Nat} (hd : decode (mC μ) pc = .ok (.ifCond .ne off, 3)) (ht : (pc : Int) + off = (tgt : Int)) (kt : ¬ x = 0 → G Γ μ R W k tgt L st Y) (kf : x = 0 → G Γ μ R W k (pc + 3) L st Y) : G Γ μ R W k pc L (.int x :: st) Y :=
  fun α0 Y0 α X C E => J_if_ne hd ht (fun h => kt h α0 Y0 α X C E) (fun h => kf h α0 Y0 α X C E)
theorem G_icmp_ne {x y : Int32} {off : Int} {tgt : Nat} (hd : decode (mC μ) pc = .ok (.if_icmp .ne off, 3)) (ht : (pc : Int) + off = (tgt : Int)) (kt : ¬ x = y → G Γ μ R W k tgt L st Y) (kf : x = y → G Γ μ R W k (pc + 3) L st Y) : G Γ μ R W k pc L (.int y :: .int x :: st) Y :=
  fun α0 Y0 α X C E => J_icmp_ne hd ht (fun h => kt h α0 Y0 α X C E) (fun h => kf h α0 Y0 α X C E)
theorem G_if_lt {x : Int32} {off : Int} {tgt : Nat} (hd : decode (mC μ) pc = .ok (.ifCond .lt off, 3)) (ht : (pc : Int) + off = (tgt : Int)) (kt : x < 0 → G Γ μ R W k tgt L st Y) (kf : ¬ x < 0 → G Γ μ R W k (pc + 3) L st Y) : G Γ μ R W k pc L (.int x :: st) Y :=
  fun α0 Y0 α X C E => J_if_lt hd ht (fun h => kt h α0 Y0 α X C E) (fun h => kf h α0 Y0 α X C E)
theorem G_icmp_lt {x y : Int32} {off : Int} {tgt : Nat} (hd : decode (mC μ) pc = .ok (.if_icmp .lt off, 3)) (ht : (pc : Int) + off = (tgt : Int)) (kt : x < y → G Γ μ R W k tgt L st Y) (kf : ¬ x < y → G Γ μ R W k (pc + 3) L st Y) : G Γ μ R W k pc L (.int y :: .int x :: st) Y :=
  fun α0 Y0 α X C E => J_icmp_lt hd ht (fun h => kt h α0 Y0 α X C E) (fun h => kf h α0 Y0 α X C E)
theorem G_if_ge {x : Int32} {off : Int} {tgt : Nat} (hd : decode (mC μ) pc = .ok (.ifCond .ge off, 3)) (ht : (pc : Int) + off = (tgt : Int)) (kt : 0 ≤ x → G Γ μ R W k tgt L st Y) (kf : ¬ 0 ≤ x → G Γ μ R W k (pc + 3) L st Y) : G Γ μ R W k pc L (.int x :: st) Y :=
  fun α0 Y0 α X C E => J_if_ge hd ht (fun h => kt h α0 Y0 α X C E) (fun h => kf h α0 Y0 α X C E)
theorem G_icmp_ge {x y : Int32} {off : Int} {tgt : Nat} (hd : decode (mC μ) pc = .ok (.if_icmp .ge off, 3)) (ht : (pc : Int) + off = (tgt : Int)) (kt : y ≤ x → G Γ μ R W k tgt L st Y) (kf : ¬ y ≤ x → G Γ μ R W k (pc + 3) L st Y) : G Γ μ R W k pc L (.int y :: .int x :: st) Y :=
  fun α0 Y0 α X C E => J_icmp_ge hd ht (fun h => kt h α0 Y0 α X C E) (fun h => kf h α0 Y0 α X C E)
theorem G_if_gt {x : Int32} {off : Int} {tgt : Nat} (hd : decode (mC μ) pc = .ok (.ifCond .gt off, 3)) (ht : (pc : Int) + off = (tgt : Int)) (kt : 0 < x → G Γ μ R W k tgt L st Y) (kf : ¬ 0 < x → G Γ μ R W k (pc + 3) L st Y) : G Γ μ R W k pc L (.int x :: st) Y :=
  fun α0 Y0 α X C E => J_if_gt hd ht (fun h => kt h α0 Y0 α X C E) (fun h => kf h α0 Y0 α X C E)
theorem G_icmp_gt {x y : Int32} {off : Int} {tgt : Nat} (hd : decode (mC μ) pc = .ok (.if_icmp .gt off, 3)) (ht : (pc : Int) + off = (tgt : Int)) (kt : y < x → G Γ μ R W k tgt L st Y) (kf : ¬ y < x → G Γ μ R W k (pc + 3) L st Y) : G Γ μ R W k pc L (.int y :: .int x :: st) Y :=
  fun α0 Y0 α X C E => J_icmp_gt hd ht (fun h => kt h α0 Y0 α X C E) (fun h => kf h α0 Y0 α X C E)
theorem G_if_le {x : Int32} {off : Int} {tgt : Nat} (hd : decode (mC μ) pc = .ok (.ifCond .le off, 3)) (ht : (pc : Int) + off = (tgt : Int)) (kt : x ≤ 0 → G Γ μ R W k tgt L st Y) (kf : ¬ x ≤ 0 → G Γ μ R W k (pc + 3) L st Y) : G Γ μ R W k pc L (.int x :: st) Y :=
  fun α0 Y0 α X C E => J_if_le hd ht (fun h => kt h α0 Y0 α X C E) (fun h => kf h α0 Y0 α X C E)
theorem G_icmp_le {x y : Int32} {off : Int} {tgt : Nat} (hd : decode (mC μ) pc = .ok (.if_icmp .le off, 3)) (ht : (pc : Int) + off = (tgt : Int)) (kt : x ≤ y → G Γ μ R W k tgt L st Y) (kf : ¬ x ≤ y → G Γ μ R W k (pc + 3) L st Y) : G Γ μ R W k pc L (.int y :: .int x :: st) Y :=
  fun α0 Y0 α X C E => J_icmp_le hd ht (fun h => kt h α0 Y0 α X C E) (fun h => kf h α0 Y0 α X C E)
theorem G_icmp_eqN {a b : Nat} {off : Int} {tgt : Nat} (ha : a < 2 ^ 31) (hb : b < 2 ^ 31) (hd : decode (mC μ) pc = .ok (.if_icmp .eq off, 3)) (ht : (pc : Int) + off = (tgt : Int)) (kt : a = b → G Γ μ R W k tgt L st Y) (kf : a ≠ b → G Γ μ R W k (pc + 3) L st Y) : G Γ μ R W k pc L (.int (nI b) :: .int (nI a) :: st) Y :=
  G_icmp_eq hd ht (fun h => kt ((nI_eq ha hb).mp h)) (fun h => kf (fun e => h ((nI_eq ha hb).mpr e)))
theorem G_icmp_neN {a b : Nat} {off : Int} {tgt : Nat} (ha : a < 2 ^ 31) (hb : b < 2 ^ 31) (hd : decode (mC μ) pc = .ok (.if_icmp .ne off, 3)) (ht : (pc : Int) + off = (tgt : Int)) (kt : a ≠ b → G Γ μ R W k tgt L st Y) (kf : a = b → G Γ μ R W k (pc + 3) L st Y) : G Γ μ R W k pc L (.int (nI b) :: .int (nI a) :: st) Y :=
  G_icmp_ne hd ht (fun h => kt (fun e => h ((nI_eq ha hb).mpr e))) (fun h => kf ((nI_eq ha hb).mp h))
theorem G_icmp_ltN {a b : Nat} {off : Int} {tgt : Nat} (ha : a < 2 ^ 31) (hb : b < 2 ^ 31) (hd : decode (mC μ) pc = .ok (.if_icmp .lt off, 3)) (ht : (pc : Int) + off = (tgt : Int)) (kt : a < b → G Γ μ R W k tgt L st Y) (kf : b ≤ a → G Γ μ R W k (pc + 3) L st Y) : G Γ μ R W k pc L (.int (nI b) :: .int (nI a) :: st) Y :=
  G_icmp_lt hd ht (fun h => kt ((nI_ltI ha hb).mp h)) (fun h => kf (Nat.not_lt.mp (fun e => h ((nI_ltI ha hb).mpr e))))
theorem G_icmp_geN {a b : Nat} {off : Int} {tgt : Nat} (ha : a < 2 ^ 31) (hb : b < 2 ^ 31) (hd : decode (mC μ) pc = .ok (.if_icmp .ge off, 3)) (ht : (pc : Int) + off = (tgt : Int)) (kt : b ≤ a → G Γ μ R W k tgt L st Y) (kf : a < b → G Γ μ R W k (pc + 3) L st Y) : G Γ μ R W k pc L (.int (nI b) :: .int (nI a) :: st) Y :=
  G_icmp_ge hd ht (fun h => kt ((nI_leI hb ha).mp h)) (fun h => kf (Nat.not_le.mp (fun e => h ((nI_leI hb ha).mpr e))))
theorem G_icmp_gtN {a b : Nat} {off : Int} {tgt : Nat} (ha : a < 2 ^ 31) (hb : b < 2 ^ 31) (hd : decode (mC μ) pc = .ok (.if_icmp .gt off, 3)) (ht : (pc : Int) + off = (tgt : Int)) (kt : b < a → G Γ μ R W k tgt L st Y) (kf : a ≤ b → G Γ μ R W k (pc + 3) L st Y) : G Γ μ R W k pc L (.int (nI b) :: .int (nI a) :: st) Y :=
  G_icmp_gt hd ht (fun h => kt ((nI_ltI hb ha).mp h)) (fun h => kf (Nat.not_lt.mp (fun e => h ((nI_ltI hb ha).mpr e))))
theorem G_icmp_leN {a b : Nat} {off : Int} {tgt : Nat} (ha : a < 2 ^ 31) (hb : b < 2 ^ 31) (hd : decode (mC μ) pc = .ok (.if_icmp .le off, 3)) (ht : (pc : Int) + off = (tgt : Int)) (kt : a ≤ b → G Γ μ R W k tgt L st Y) (kf : b < a → G Γ μ R W k (pc + 3) L st Y) : G Γ μ R W k pc L (.int (nI b) :: .int (nI a) :: st) Y :=
  G_icmp_le hd ht (fun h => kt ((nI_leI ha hb).mp h)) (fun h => kf (Nat.not_le.mp (fun e => h ((nI_leI ha hb).mpr e))))
theorem G_goto {off : Int} {tgt : Nat} (hd : decode (mC μ) pc = .ok (.goto off, 3)) (ht : (pc : Int) + off = (tgt : Int)) (kk : G Γ μ R W k tgt L st Y) : G Γ μ R W k pc L st Y :=
  fun α0 Y0 α X C E => J_goto hd ht (kk α0 Y0 α X C E)
theorem G_ifnull_r {off : Int} {x : Nat} (hd : decode (mC μ) pc = .ok (.ifnull off, 3)) (kk : G Γ μ R W k (pc + 3) L st Y) : G Γ μ R W k pc L (.ref x :: st) Y :=
  fun α0 Y0 α X C E => J_ifnull_r hd (kk α0 Y0 α X C E)
theorem G_ifnull_n {off : Int} {tgt : Nat} (hd : decode (mC μ) pc = .ok (.ifnull off, 3)) (ht : (pc : Int) + off = (tgt : Int)) (kk : G Γ μ R W k tgt L st Y) : G Γ μ R W k pc L (.null :: st) Y :=
  fun α0 Y0 α X C E => J_ifnull_n hd ht (kk α0 Y0 α X C E)
theorem G_ifnonnull_r {off : Int} {tgt : Nat} {x : Nat} (hd : decode (mC μ) pc = .ok (.ifnonnull off, 3)) (ht : (pc : Int) + off = (tgt : Int)) (kk : G Γ μ R W k tgt L st Y) : G Γ μ R W k pc L (.ref x :: st) Y :=
  fun α0 Y0 α X C E => J_ifnonnull_r hd ht (kk α0 Y0 α X C E)
theorem G_ifnonnull_n {off : Int} (hd : decode (mC μ) pc = .ok (.ifnonnull off, 3)) (kk : G Γ μ R W k (pc + 3) L st Y) : G Γ μ R W k pc L (.null :: st) Y :=
  fun α0 Y0 α X C E => J_ifnonnull_n hd (kk α0 Y0 α X C E)
theorem G_tableIn {dflt lo hi : Int} {offs : Array Int} {len : Nat} {x : Int32} {off : Int} {tgt : Nat} (hd : decode (mC μ) pc = .ok (.tableswitch dflt lo hi offs, len)) (h1 : ¬ x.toInt < lo) (h2 : ¬ hi < x.toInt) (ho : offs[(x.toInt - lo).toNat]? = some off) (ht : (pc : Int) + off = (tgt : Int)) (kk : G Γ μ R W k tgt L st Y) : G Γ μ R W k pc L (.int x :: st) Y :=
  fun α0 Y0 α X C E => J_tableIn hd h1 h2 ho ht (kk α0 Y0 α X C E)
theorem G_tableOut {dflt lo hi : Int} {offs : Array Int} {len : Nat} {x : Int32} {tgt : Nat} (hd : decode (mC μ) pc = .ok (.tableswitch dflt lo hi offs, len)) (h : x.toInt < lo ∨ hi < x.toInt) (ht : (pc : Int) + dflt = (tgt : Int)) (kk : G Γ μ R W k tgt L st Y) : G Γ μ R W k pc L (.int x :: st) Y :=
  fun α0 Y0 α X C E => J_tableOut hd h ht (kk α0 Y0 α X C E)
end GW
end
section
-- ===== the heap over ids =====
def rfv : List Value → List Nat
  | [] => []
  | .ref a :: l => a :: rfv l
  | _ :: l => rfv l
def rfs : List (Option Value) → List Nat
  | [] => []
  | some (.ref a) :: l => a :: rfs l
  | _ :: l => rfs l
theorem sm_eq {α α' : Nat → Nat} : ∀ {st : List Value}, (∀ r ∈ rfv st, α' r = α r) → sm α' st = sm α st
  | [], _ => rfl
  | v :: l, h => by
    have ih : (∀ r ∈ rfv l, α' r = α r) → sm α' l = sm α l := sm_eq
    cases v
    case ref a =>
      show Value.ref (α' a) :: sm α' l = .ref (α a) :: sm α l
      rw [h a List.mem_cons_self, ih (fun r hr => h r (List.mem_cons_of_mem _ hr))]
    all_goals
      exact congrArg (fun t => List.cons _ t) (ih h)
theorem lm_eq {α α' : Nat → Nat} : ∀ {L : List (Option Value)}, (∀ r ∈ rfs L, α' r = α r) → lm α' L = lm α L
  | [], _ => rfl
  | v :: l, h => by
    have ih : (∀ r ∈ rfs l, α' r = α r) → lm α' l = lm α l := lm_eq
    cases v with
    | none => exact congrArg (fun t => List.cons _ t) (ih h)
    | some v =>
      cases v
      case ref a =>
        show some (Value.ref (α' a)) :: lm α' l = some (.ref (α a)) :: lm α l
        rw [h a List.mem_cons_self, ih (fun r hr => h r (List.mem_cons_of_mem _ hr))]
      all_goals
        exact congrArg (fun t => List.cons _ t) (ih h)
section CRS
variable {Γ : GTy} {α : Nat → Nat} {Y X : HS}
theorem CR.inj (h : CR Γ α Y X) {a b : Nat} (ha : a ∈ xL Y) (hb : b ∈ xL Y) : (α b = α a) = (b = a) := propext ⟨fun e => h.1 b hb a ha e, fun e => by rw [e]⟩
theorem CR.sI (h : CR Γ α Y X) {c i a : Nat} (v : Int32) (ha : a ∈ xL Y) : CR Γ α (sI Y c i a v) (sI X c i (α a) v) := by
  obtain ⟨h1, h2, h3, h4, h5, h6, h7⟩ := id h
  refine ⟨h1, h2, fun b hb => ⟨(h3 b hb).1, (h3 b hb).2.1, fun c' k => ?_, (h3 b hb).2.2.2.1, (h3 b hb).2.2.2.2⟩, h4, h5, h6, h7⟩
  show (if c' = c ∧ k = i ∧ α b = α a then v else xI X c' k (α b)) = (if c' = c ∧ k = i ∧ b = a then v else xI Y c' k b)
  simp only [h.inj ha hb, (h3 b hb).2.2.1]
theorem CR.sR (h : CR Γ α Y X) {c i a : Nat} {o : Option Nat} (ha : a ∈ xL Y) (ho : ∀ r, o = some r → r ∈ xL Y) : CR Γ α (sR Y c i a o) (sR X c i (α a) (o.map α)) := by
  obtain ⟨h1, h2, h3, h4, h5, h6, h7⟩ := id h
  refine ⟨h1, h2, fun b hb => ⟨(h3 b hb).1, (h3 b hb).2.1, (h3 b hb).2.2.1, fun c' k => ?_, (h3 b hb).2.2.2.2⟩, h4, h5, h6, fun b hb => ⟨fun c' k r hr => ?_, (h7 b hb).2⟩⟩
  · show (if c' = c ∧ k = i ∧ α b = α a then o.map α else xR X c' k (α b)) = (if c' = c ∧ k = i ∧ b = a then o else xR Y c' k b).map α
    simp only [h.inj ha hb, (h3 b hb).2.2.2.1]
    split <;> rfl
  · have hr' : (if c' = c ∧ k = i ∧ b = a then o else xR Y c' k b) = some r := hr
    split at hr'
    · exact ho r hr'
    · exact (h7 b hb).1 c' k r hr'
theorem CR.sA (h : CR Γ α Y X) {a i : Nat} (v : Int32) (ha : a ∈ xL Y) : CR Γ α (sA Y a i v) (sA X (α a) i v) := by
  obtain ⟨h1, h2, h3, h4, h5, h6, h7⟩ := id h
  refine ⟨h1, h2, fun b hb => ⟨(h3 b hb).1, (h3 b hb).2.1, (h3 b hb).2.2.1, (h3 b hb).2.2.2.1, fun j => ?_, (h3 b hb).2.2.2.2.2⟩, h4, h5, h6, h7⟩
  show (if α b = α a ∧ j = i then v else xA X (α b) j) = (if b = a ∧ j = i then v else xA Y b j)
  simp only [h.inj ha hb, (h3 b hb).2.2.2.2.1]
theorem CR.sJ (h : CR Γ α Y X) {a i : Nat} (v : Int64) (ha : a ∈ xL Y) : CR Γ α (sJ Y a i v) (sJ X (α a) i v) := by
  obtain ⟨h1, h2, h3, h4, h5, h6, h7⟩ := id h
  refine ⟨h1, h2, fun b hb => ⟨(h3 b hb).1, (h3 b hb).2.1, (h3 b hb).2.2.1, (h3 b hb).2.2.2.1, (h3 b hb).2.2.2.2.1, fun j => ?_, (h3 b hb).2.2.2.2.2.2⟩, h4, h5, h6, h7⟩
  show (if α b = α a ∧ j = i then v else xJ X (α b) j) = (if b = a ∧ j = i then v else xJ Y b j)
  simp only [h.inj ha hb, (h3 b hb).2.2.2.2.2.1]
theorem CR.sP (h : CR Γ α Y X) {a i r : Nat} (ha : a ∈ xL Y) (hr : r ∈ xL Y) : CR Γ α (sP Y a i (some r)) (sP X (α a) i (some (α r))) := by
  obtain ⟨h1, h2, h3, h4, h5, h6, h7⟩ := id h
  refine ⟨h1, h2, fun b hb => ⟨(h3 b hb).1, (h3 b hb).2.1, (h3 b hb).2.2.1, (h3 b hb).2.2.2.1, (h3 b hb).2.2.2.2.1, (h3 b hb).2.2.2.2.2.1, fun j => ?_⟩, h4, h5, h6, fun b hb => ⟨(h7 b hb).1, fun j q hq => ?_⟩⟩
  · show (if α b = α a ∧ j = i then some (α r) else xP X (α b) j) = (if b = a ∧ j = i then some r else xP Y b j).map α
    simp only [h.inj ha hb, (h3 b hb).2.2.2.2.2.2]
    split <;> rfl
  · have hq' : (if b = a ∧ j = i then some r else xP Y b j) = some q := hq
    split at hq'
    · cases hq'; exact hr
    · exact (h7 b hb).2 j q hq'
/-- a new cell: what the four rows share -/
theorem CR.new (h : CR Γ α Y X) {z q c : Nat} {Y' X' : HS} (hid : xK Y z = 99) (hlt : z < 1000000000) (hq : q ∉ xL X) (hc : c ≠ 99) (lY : xL Y' = xL Y ++ [z]) (lX : xL X' = xL X ++ [q]) (kY : xK Y' = va_up (xK Y) z c) (kX : xK X' = va_up (xK X) q c)
    (hn : xn X' q = xn Y' z ∧ (∀ c k, xI X' c k q = xI Y' c k z) ∧ (∀ c k, xR X' c k q = none ∧ xR Y' c k z = none) ∧ (∀ i, xA X' q i = xA Y' z i) ∧ (∀ i, xJ X' q i = xJ Y' z i) ∧ (∀ i, xP X' q i = none ∧ xP Y' z i = none))
    (ho : ∀ a b, a ≠ q → b ≠ z → (xn X' a = xn X a ∧ xn Y' b = xn Y b) ∧ (∀ c k, xI X' c k a = xI X c k a ∧ xI Y' c k b = xI Y c k b) ∧ (∀ c k, xR X' c k a = xR X c k a ∧ xR Y' c k b = xR Y c k b) ∧ (∀ i, xA X' a i = xA X a i ∧ xA Y' b i = xA Y b i) ∧ (∀ i, xJ X' a i = xJ X a i ∧ xJ Y' b i = xJ Y b i) ∧ (∀ i, xP X' a i = xP X a i ∧ xP Y' b i = xP Y b i)) : CR Γ (va_up α z q) Y' X' := by
  obtain ⟨h1, h2, h3, h4, h5, h6, h7⟩ := id h
  have hni : z ∉ xL Y := (h4 z).mpr hid
  have hin : ∀ a, a ∈ xL Y → a ≠ z := fun a ha e => hni (e ▸ ha)
  have him : ∀ a, a ∈ xL Y → α a ∈ xL X := fun a ha => by rw [h2]; exact List.mem_map.mpr ⟨a, ha, rfl⟩
  have hne : ∀ a, a ∈ xL Y → α a ≠ q := fun a ha e => hq (e ▸ him a ha)
  have hup : ∀ a, a ∈ xL Y → va_up α z q a = α a := fun a ha => va_up_ne _ _ (hin a ha)
  have cl : ∀ a, a ∈ xL Y → (∀ c k r, xR Y c k a = some r → r ∈ xL Y) ∧ (∀ i r, xP Y a i = some r → r ∈ xL Y) := h7
  refine ⟨fun a ha b hb hab => ?_, ?_, fun a ha => ?_, fun a => ?_, fun i hi => ?_, fun a ha => ?_, fun a ha => ?_⟩
  · rw [lY, List.mem_append, List.mem_singleton] at ha hb
    rcases ha with ha | rfl <;> rcases hb with hb | rfl
    · rw [hup a ha, hup b hb] at hab; exact h1 a ha b hb hab
    · rw [hup a ha, va_up_self] at hab; exact absurd hab (hne a ha)
    · rw [hup b hb, va_up_self] at hab; exact absurd hab.symm (hne b hb)
    · rfl
  · rw [lX, lY, h2, List.map_append]
    congr 1
    · exact List.map_congr_left (fun a ha => (hup a ha).symm)
    · simp [va_up_self]
  · rw [lY, List.mem_append, List.mem_singleton] at ha
    rcases ha with ha | rfl
    · rw [hup a ha, kX, kY, va_up_ne _ _ (hne a ha), va_up_ne _ _ (hin a ha)]
      obtain ⟨g1, g2, g3, g4, g5, g6⟩ := ho (α a) a (hne a ha) (hin a ha)
      obtain ⟨e1, e2, e3, e4, e5, e6, e7⟩ := h3 a ha
      refine ⟨e1, by rw [g1.1, g1.2, e2], fun c k => by rw [(g2 c k).1, (g2 c k).2, e3], fun c k => ?_, fun i => by rw [(g4 i).1, (g4 i).2, e5], fun i => by rw [(g5 i).1, (g5 i).2, e6], fun i => ?_⟩
      · rw [(g3 c k).1, (g3 c k).2, e4]
        cases hr : xR Y c k a with
        | none => rfl
        | some r => exact congrArg some (hup r ((cl a ha).1 c k r hr)).symm
      · rw [(g6 i).1, (g6 i).2, e7]
        cases hr : xP Y a i with
        | none => rfl
        | some r => exact congrArg some (hup r ((cl a ha).2 i r hr)).symm
    · rw [va_up_self, kX, kY, va_up_self, va_up_self]
      exact ⟨rfl, hn.1, hn.2.1, fun c k => by rw [(hn.2.2.1 c k).1, (hn.2.2.1 c k).2]; rfl, hn.2.2.2.1, hn.2.2.2.2.1, fun i => by rw [(hn.2.2.2.2.2 i).1, (hn.2.2.2.2.2 i).2]; rfl⟩
  · rw [lY, List.mem_append, List.mem_singleton, kY]
    by_cases e : a = z
    · subst e
      rw [va_up_self]
      exact ⟨fun h => absurd (Or.inr rfl) h, fun h => absurd h hc⟩
    · rw [va_up_ne _ _ e, ← h4 a]
      exact ⟨fun h hh => h (Or.inl hh), fun h hh => hh.elim h e⟩
  · rw [va_up_ne _ _ (by unfold sid; omega)]
    exact h5 i hi
  · rw [lY, List.mem_append, List.mem_singleton] at ha
    rcases ha with ha | rfl
    · exact h6 a ha
    · exact hlt
  · rw [lY]
    rw [lY, List.mem_append, List.mem_singleton] at ha
    rcases ha with ha | rfl
    · obtain ⟨g1, g2, g3, g4, g5, g6⟩ := ho q a |> fun f => ho (α a) a (hne a ha) (hin a ha)
      refine ⟨fun c k r hr => List.mem_append_left _ ?_, fun i r hr => List.mem_append_left _ ?_⟩
      · rw [(g3 c k).2] at hr; exact (cl a ha).1 c k r hr
      · rw [(g6 i).2] at hr; exact (cl a ha).2 i r hr
    · refine ⟨fun c k r hr => ?_, fun i r hr => ?_⟩
      · rw [(hn.2.2.1 c k).2] at hr; cases hr
      · rw [(hn.2.2.2.2.2 i).2] at hr; cases hr
end CRS
section GH
variable {Γ : GTy} {μ : MTy} {R : Room} {W : WTy} {k : Nat × Nat} {pc : Nat} {L : List (Option Value)} {st : List Value} {Y : HS}
variable {QV : Option Value → HS → Prop} {QX : String → HS → Prop}
theorem FL.lt {own : String} {idx c i : Nat} (h : FL own idx c i) : c < 10 := by obtain ⟨_, _, _, _, h, _⟩ := h; exact h
theorem G_getI {idx c i a : Nat} (hF : FL (mN μ).cls idx c i) (hk : xK Y a = c) (hr : rf c i = false) (hd : decode (mC μ) pc = .ok (.getfield idx, 3)) (kk : G Γ μ R W k (pc + 3) L (.int (xI Y c i a) :: st) Y) : G Γ μ R W k pc L (.ref a :: st) Y := by
  intro α0 Y0 α X C E
  have hc := hF.lt
  refine J_getI hF (C.K hk (by omega)) hr hd ?_
  rw [(C.2.2.1 a (C.mem (by omega))).2.2.1]
  exact kk α0 Y0 α X C E
theorem G_getV {idx c i a : Nat} (hF : FL (mN μ).cls idx c i) (hk : xK Y a = c) (hr : rf c i = true) (hd : decode (mC μ) pc = .ok (.getfield idx, 3)) (kk : G Γ μ R W k (pc + 3) L (va_rf (xR Y c i a) :: st) Y) : G Γ μ R W k pc L (.ref a :: st) Y := by
  intro α0 Y0 α X C E
  have hc := hF.lt
  refine J_getV hF (C.K hk (by omega)) hd ?_
  have h := kk α0 Y0 α X C E
  unfold gv
  rw [hr, if_pos rfl, (C.2.2.1 a (C.mem (by omega))).2.2.2.1]
  cases hx : xR Y c i a with
  | none => rw [hx] at h; exact h
  | some r => rw [hx] at h; exact h
theorem G_getR {idx c i a : Nat} (hF : FL (mN μ).cls idx c i) (hk : xK Y a = c) (hr : rf c i = true) (hd : decode (mC μ) pc = .ok (.getfield idx, 3)) (kn : xR Y c i a = none → G Γ μ R W k (pc + 3) L (.null :: st) Y) (kk : ∀ r : Nat, xR Y c i a = some r → G Γ μ R W k (pc + 3) L (.ref r :: st) Y) : G Γ μ R W k pc L (.ref a :: st) Y := by
  refine G_getV hF hk hr hd ?_
  cases h : xR Y c i a with
  | none => exact kn h
  | some r => exact kk r h
theorem G_getS {idx c i a r : Nat} (hF : FL (mN μ).cls idx c i) (hk : xK Y a = c) (hr : rf c i = true) (h : xR Y c i a = some r) (hd : decode (mC μ) pc = .ok (.getfield idx, 3)) (kk : G Γ μ R W k (pc + 3) L (.ref r :: st) Y) : G Γ μ R W k pc L (.ref a :: st) Y := by
  refine G_getV hF hk hr hd ?_
  rw [h]
  exact kk
theorem G_getN {idx c i a : Nat} (hF : FL (mN μ).cls idx c i) (hk : xK Y a = c) (hr : rf c i = true) (h : xR Y c i a = none) (hd : decode (mC μ) pc = .ok (.getfield idx, 3)) (kk : G Γ μ R W k (pc + 3) L (.null :: st) Y) : G Γ μ R W k pc L (.ref a :: st) Y := by
  refine G_getV hF hk hr hd ?_
  rw [h]
  exact kk
theorem G_putI {idx c i a : Nat} {v : Int32} (hF : FL (mN μ).cls idx c i) (hW : FW c i) (hk : xK Y a = c) (ht : ft c i = .int) (hd : decode (mC μ) pc = .ok (.putfield idx, 3)) (kk : G Γ μ R W k (pc + 3) L st (sI Y c i a v)) : G Γ μ R W k pc L (.int v :: .ref a :: st) Y := by
  intro α0 Y0 α X C E
  have hc := hF.lt
  exact J_putI hF hW (C.K hk (by omega)) ht hd (kk α0 Y0 α _ (C.sI v (C.mem (by omega))) (E.same rfl))
theorem G_putZ {idx c i a : Nat} {v : Int32} (hF : FL (mN μ).cls idx c i) (hW : FW c i) (hk : xK Y a = c) (ht : ft c i = .boolean) (hv : v = 0 ∨ v = 1) (hd : decode (mC μ) pc = .ok (.putfield idx, 3)) (kk : G Γ μ R W k (pc + 3) L st (sI Y c i a v)) : G Γ μ R W k pc L (.int v :: .ref a :: st) Y := by
  intro α0 Y0 α X C E
  have hc := hF.lt
  exact J_putZ hF hW (C.K hk (by omega)) ht hv hd (kk α0 Y0 α _ (C.sI v (C.mem (by omega))) (E.same rfl))
theorem G_putIF {idx c i a : Nat} {v : Int32} (hF : FL (mN μ).cls idx c i) (hW : FF (mN μ).cls c i) (hin : (mN μ).name = "<init>") (hk : xK Y a = c) (ht : ft c i = .int) (hd : decode (mC μ) pc = .ok (.putfield idx, 3)) (kk : G Γ μ R W k (pc + 3) L st (sI Y c i a v)) : G Γ μ R W k pc L (.int v :: .ref a :: st) Y := by
  intro α0 Y0 α X C E
  have hc := hF.lt
  exact J_putIF hF hW hin (C.K hk (by omega)) ht hd (kk α0 Y0 α _ (C.sI v (C.mem (by omega))) (E.same rfl))
theorem G_putZF {idx c i a : Nat} {v : Int32} (hF : FL (mN μ).cls idx c i) (hW : FF (mN μ).cls c i) (hin : (mN μ).name = "<init>") (hk : xK Y a = c) (ht : ft c i = .boolean) (hv : v = 0 ∨ v = 1) (hd : decode (mC μ) pc = .ok (.putfield idx, 3)) (kk : G Γ μ R W k (pc + 3) L st (sI Y c i a v)) : G Γ μ R W k pc L (.int v :: .ref a :: st) Y := by
  intro α0 Y0 α X C E
  have hc := hF.lt
  exact J_putZF hF hW hin (C.K hk (by omega)) ht hv hd (kk α0 Y0 α _ (C.sI v (C.mem (by omega))) (E.same rfl))
theorem rf_cv {α : Nat → Nat} {o : Option Nat} {v : Value} (hv : va_rf o = v) : va_rf (o.map α) = cv α v := by
  subst hv
  cases o <;> rfl
theorem G_putR {idx c i a : Nat} {o : Option Nat} {v : Value} (hv : va_rf o = v) (ho : ∀ r, o = some r → xK Y r ≠ 99) (hF : FL (mN μ).cls idx c i) (hW : FW c i) (hk : xK Y a = c) {n : String} (ht : ft c i = .object n) (hd : decode (mC μ) pc = .ok (.putfield idx, 3)) (kk : G Γ μ R W k (pc + 3) L st (sR Y c i a o)) : G Γ μ R W k pc L (v :: .ref a :: st) Y := by
  intro α0 Y0 α X C E
  have hc := hF.lt
  exact J_putR (rf_cv hv) hF hW (C.K hk (by omega)) ht hd (kk α0 Y0 α _ (C.sR (C.mem (by omega)) (fun r hr => C.mem (ho r hr))) (E.same rfl))
theorem G_putRF {idx c i a : Nat} {o : Option Nat} {v : Value} (hv : va_rf o = v) (ho : ∀ r, o = some r → xK Y r ≠ 99) (hF : FL (mN μ).cls idx c i) (hW : FF (mN μ).cls c i) (hin : (mN μ).name = "<init>") (hk : xK Y a = c) {n : String} (ht : ft c i = .object n) (hd : decode (mC μ) pc = .ok (.putfield idx, 3)) (kk : G Γ μ R W k (pc + 3) L st (sR Y c i a o)) : G Γ μ R W k pc L (v :: .ref a :: st) Y := by
  intro α0 Y0 α X C E
  have hc := hF.lt
  exact J_putRF (rf_cv hv) hF hW hin (C.K hk (by omega)) ht hd (kk α0 Y0 α _ (C.sR (C.mem (by omega)) (fun r hr => C.mem (ho r hr))) (E.same rfl))
theorem G_putAF {idx c i a : Nat} {o : Option Nat} {v : Value} (hv : va_rf o = v) (ho : ∀ r, o = some r → xK Y r ≠ 99) (hF : FL (mN μ).cls idx c i) (hW : FF (mN μ).cls c i) (hin : (mN μ).name = "<init>") (hk : xK Y a = c) {n : FieldType} (ht : ft c i = .array n) (hd : decode (mC μ) pc = .ok (.putfield idx, 3)) (kk : G Γ μ R W k (pc + 3) L st (sR Y c i a o)) : G Γ μ R W k pc L (v :: .ref a :: st) Y := by
  intro α0 Y0 α X C E
  have hc := hF.lt
  exact J_putAF (rf_cv hv) hF hW hin (C.K hk (by omega)) ht hd (kk α0 Y0 α _ (C.sR (C.mem (by omega)) (fun r hr => C.mem (ho r hr))) (E.same rfl))
theorem G_alen {a c : Nat} {v : Int32} (hk : xK Y a = c) (hc : 10 ≤ c ∧ c ≤ 18) (hv : nI (xn Y a) = v) (hd : decode (mC μ) pc = .ok (.arraylength, 1)) (kk : G Γ μ R W k (pc + 1) L (.int v :: st) Y) : G Γ μ R W k pc L (.ref a :: st) Y := by
  intro α0 Y0 α X C E
  exact J_alen hc (C.K hk (by omega)) (by rw [(C.2.2.1 a (C.mem (by omega))).2.1]; exact hv) hd (kk α0 Y0 α X C E)
theorem G_iald {a j : Nat} {i : Int32} (hk : xK Y a = 10) (hi : i = nI j) (hj : j < xn Y a) (h2 : j < 2 ^ 31) (hd : decode (mC μ) pc = .ok (.iaload, 1)) (kk : G Γ μ R W k (pc + 1) L (.int (xA Y a j) :: st) Y) : G Γ μ R W k pc L (.int i :: .ref a :: st) Y := by
  intro α0 Y0 α X C E
  have h := C.2.2.1 a (C.mem (by omega))
  refine J_iald (C.K hk (by omega)) hi (by rw [h.2.1]; exact hj) h2 hd ?_
  rw [h.2.2.2.2.1]
  exact kk α0 Y0 α X C E
theorem G_bald {a j : Nat} {i : Int32} (hk : xK Y a = 11) (hi : i = nI j) (hj : j < xn Y a) (h2 : j < 2 ^ 31) (hd : decode (mC μ) pc = .ok (.baload, 1)) (kk : G Γ μ R W k (pc + 1) L (.int (xA Y a j) :: st) Y) : G Γ μ R W k pc L (.int i :: .ref a :: st) Y := by
  intro α0 Y0 α X C E
  have h := C.2.2.1 a (C.mem (by omega))
  refine J_bald (C.K hk (by omega)) hi (by rw [h.2.1]; exact hj) h2 hd ?_
  rw [h.2.2.2.2.1]
  exact kk α0 Y0 α X C E
theorem G_lald {a j : Nat} {i : Int32} (hk : xK Y a = 18) (hi : i = nI j) (hj : j < xn Y a) (h2 : j < 2 ^ 31) (hd : decode (mC μ) pc = .ok (.laload, 1)) (kk : G Γ μ R W k (pc + 1) L (.long (xJ Y a j) :: st) Y) : G Γ μ R W k pc L (.int i :: .ref a :: st) Y := by
  intro α0 Y0 α X C E
  have h := C.2.2.1 a (C.mem (by omega))
  refine J_lald (C.K hk (by omega)) hi (by rw [h.2.1]; exact hj) h2 hd ?_
  rw [h.2.2.2.2.2.1]
  exact kk α0 Y0 α X C E
theorem G_aaldV {a j c : Nat} {i : Int32} (hk : xK Y a = c) (hc : 12 ≤ c ∧ c < 18) (hi : i = nI j) (hj : j < xn Y a) (h2 : j < 2 ^ 31) (hd : decode (mC μ) pc = .ok (.aaload, 1)) (kk : G Γ μ R W k (pc + 1) L (va_rf (xP Y a j) :: st) Y) : G Γ μ R W k pc L (.int i :: .ref a :: st) Y := by
  intro α0 Y0 α X C E
  have h := C.2.2.1 a (C.mem (by omega))
  refine J_aaldV (C.K hk (by omega)) hc hi (by rw [h.2.1]; exact hj) h2 hd ?_
  rw [h.2.2.2.2.2.2]
  have h9 := kk α0 Y0 α X C E
  cases hx : xP Y a j with
  | none => rw [hx] at h9; exact h9
  | some r => rw [hx] at h9; exact h9
theorem G_aald {a j c : Nat} {i : Int32} (hk : xK Y a = c) (hc : 12 ≤ c ∧ c < 18) (hi : i = nI j) (hj : j < xn Y a) (h2 : j < 2 ^ 31) (hd : decode (mC μ) pc = .ok (.aaload, 1)) (kn : xP Y a j = none → G Γ μ R W k (pc + 1) L (.null :: st) Y) (kk : ∀ r : Nat, xP Y a j = some r → G Γ μ R W k (pc + 1) L (.ref r :: st) Y) : G Γ μ R W k pc L (.int i :: .ref a :: st) Y := by
  refine G_aaldV hk hc hi hj h2 hd ?_
  cases h : xP Y a j with
  | none => exact kn h
  | some r => exact kk r h
theorem G_aaldS {a j c r : Nat} {i : Int32} (hk : xK Y a = c) (hc : 12 ≤ c ∧ c < 18) (hi : i = nI j) (hj : j < xn Y a) (h2 : j < 2 ^ 31) (h : xP Y a j = some r) (hd : decode (mC μ) pc = .ok (.aaload, 1)) (kk : G Γ μ R W k (pc + 1) L (.ref r :: st) Y) : G Γ μ R W k pc L (.int i :: .ref a :: st) Y := by
  refine G_aaldV hk hc hi hj h2 hd ?_
  rw [h]
  exact kk
theorem G_iast {a j : Nat} {i x : Int32} (hk : xK Y a = 10) (hi : i = nI j) (hj : j < xn Y a) (h2 : j < 2 ^ 31) (hd : decode (mC μ) pc = .ok (.iastore, 1)) (kk : G Γ μ R W k (pc + 1) L st (sA Y a j x)) : G Γ μ R W k pc L (.int x :: .int i :: .ref a :: st) Y := by
  intro α0 Y0 α X C E
  have hm := C.mem (a := a) (by omega)
  exact J_iast (C.K hk (by omega)) hi (by rw [(C.2.2.1 a hm).2.1]; exact hj) h2 hd (kk α0 Y0 α _ (C.sA x hm) (E.same rfl))
theorem G_bast {a j : Nat} {i x : Int32} (hk : xK Y a = 11) (hi : i = nI j) (hj : j < xn Y a) (h2 : j < 2 ^ 31) (hx : x = 0 ∨ x = 1) (hd : decode (mC μ) pc = .ok (.bastore, 1)) (kk : G Γ μ R W k (pc + 1) L st (sA Y a j x)) : G Γ μ R W k pc L (.int x :: .int i :: .ref a :: st) Y := by
  intro α0 Y0 α X C E
  have hm := C.mem (a := a) (by omega)
  exact J_bast (C.K hk (by omega)) hi (by rw [(C.2.2.1 a hm).2.1]; exact hj) h2 hx hd (kk α0 Y0 α _ (C.sA x hm) (E.same rfl))
theorem G_last {a j : Nat} {i : Int32} {x : Int64} (hk : xK Y a = 18) (hi : i = nI j) (hj : j < xn Y a) (h2 : j < 2 ^ 31) (hd : decode (mC μ) pc = .ok (.lastore, 1)) (kk : G Γ μ R W k (pc + 1) L st (sJ Y a j x)) : G Γ μ R W k pc L (.long x :: .int i :: .ref a :: st) Y := by
  intro α0 Y0 α X C E
  have hm := C.mem (a := a) (by omega)
  exact J_last (C.K hk (by omega)) hi (by rw [(C.2.2.1 a hm).2.1]; exact hj) h2 hd (kk α0 Y0 α _ (C.sJ x hm) (E.same rfl))
theorem G_aast {a j c b cb : Nat} {i : Int32} (hk : xK Y a = c) (hc : 12 ≤ c ∧ c < 18) (hi : i = nI j) (hj : j < xn Y a) (h2 : j < 2 ^ 31) (hb : xK Y b = cb) (hcb : cb < 10) (hcc : cN cb = eC c) (hd : decode (mC μ) pc = .ok (.aastore, 1)) (kk : G Γ μ R W k (pc + 1) L st (sP Y a j (some b))) : G Γ μ R W k pc L (.ref b :: .int i :: .ref a :: st) Y := by
  intro α0 Y0 α X C E
  have hm := C.mem (a := a) (by omega)
  have hmb := C.mem (a := b) (by omega)
  exact J_aast (C.K hk (by omega)) hc hi (by rw [(C.2.2.1 a hm).2.1]; exact hj) h2 (C.K hb (by omega)) hcb hcc hd (kk α0 Y0 α _ (C.sP hm hmb) (E.same rfl))
-- returns
def VZ (Γ : GTy) (μ : MTy) (QV : Option Value → HS → Prop) (W : WTy) : Prop := ∀ (α0 : Nat → Nat) (Y0 : HS), RZ Γ μ (QVc Γ (mA μ) α0 Y0 QV) (W α0 Y0)
theorem VZ.n : VZ Γ μ QV (Vn Γ μ QV) := fun _ _ => RZ.n
theorem VZ.x : VZ Γ μ QV (Vt Γ μ QV QX) := fun _ _ => RZ.x
theorem G_iret {v : Int32} (hz : VZ Γ μ QV W) (hd : decode (mC μ) pc = .ok (.ireturn, 1)) (hr : mR μ = some .int) (hk : k.1 ≤ mM μ ∧ k.2 ≤ mS μ) (hq : QV (some (.int v)) Y) : G Γ μ R W k pc L [.int v] Y :=
  fun α0 Y0 α X C E => J_iret (hz α0 Y0) hd hr hk ⟨α, Y, some (.int v), rfl, hq, C, E⟩
theorem G_zret {v : Int32} (hz : VZ Γ μ QV W) (hd : decode (mC μ) pc = .ok (.ireturn, 1)) (hr : mR μ = some .boolean) (hv : v = 0 ∨ v = 1) (hk : k.1 ≤ mM μ ∧ k.2 ≤ mS μ) (hq : QV (some (.int v)) Y) : G Γ μ R W k pc L [.int v] Y :=
  fun α0 Y0 α X C E => J_zret (hz α0 Y0) hd hr hv hk ⟨α, Y, some (.int v), rfl, hq, C, E⟩
theorem G_vret (hz : VZ Γ μ QV W) (hd : decode (mC μ) pc = .ok (.return_, 1)) (hr : mR μ = none) (hk : k.1 ≤ mM μ ∧ k.2 ≤ mS μ) (hq : QV none Y) : G Γ μ R W k pc L [] Y :=
  fun α0 Y0 α X C E => J_vret (hz α0 Y0) hd hr hk ⟨α, Y, none, rfl, hq, C, E⟩
theorem G_aret {v : Value} {n : String} (hz : VZ Γ μ QV W) (hd : decode (mC μ) pc = .ok (.areturn, 1)) (hr : mR μ = some (.object n)) (hv : v = .null ∨ ∃ a, v = .ref a) (hk : k.1 ≤ mM μ ∧ k.2 ≤ mS μ) (hq : QV (some v) Y) : G Γ μ R W k pc L [v] Y :=
  fun α0 Y0 α X C E => J_aret (hz α0 Y0) hd hr (by rcases hv with rfl | ⟨a, rfl⟩; exact Or.inl rfl; exact Or.inr ⟨_, rfl⟩) hk ⟨α, Y, some v, rfl, hq, C, E⟩
-- calls
/-- what an allocating call asks of the caller -/
def AOK (μ ν : MTy) (L : List (Option Value)) (rest : List Value) (Y : HS) : Prop := mA ν = true → mA μ = true ∧ (∀ r ∈ rfs L, xK Y r ≠ 99) ∧ (∀ r ∈ rfv rest, xK Y r ≠ 99)
theorem AOK.eq {ν : MTy} {rest : List Value} {α α' : Nat → Nat} {Y' : HS} (h : AOK μ ν L rest Y) (E : Ext (mA ν) α Y α' Y') : lm α' L = lm α L ∧ sm α' rest = sm α rest := by
  cases hA : mA ν
  · rw [hA] at E
    rw [E.1]
    exact ⟨rfl, rfl⟩
  · rw [hA] at E
    obtain ⟨-, h1, h2⟩ := h hA
    exact ⟨lm_eq (fun r hr => (E r (h1 r hr)).1), sm_eq (fun r hr => (E r (h2 r hr)).1)⟩
theorem G_contV {ν : MTy} {rest : List Value} {QV' : Option Value → HS → Prop} {k' : Nat × Nat} {pc' : Nat} (hA : AOK μ ν L rest Y) (kk : ∀ (v : Option Value) (Y' : HS), QV' v Y' → G Γ μ R W k' pc' L (v.toList ++ rest) Y')
    {α0 : Nat → Nat} {Y0 : HS} {α : Nat → Nat} (E : Ext (mA μ) α0 Y0 α Y) : ∀ (v : Option Value) (X' : HS), QVc Γ (mA ν) α Y QV' v X' → J Γ μ R (W α0 Y0) k' pc' (lm α L) (v.toList ++ sm α rest) X' := by
  rintro v X' ⟨α', Y', u, rfl, hq, C', E'⟩
  obtain ⟨e1, e2⟩ := hA.eq E'
  have h := kk u Y' hq α0 Y0 α' X' C' (E.trans E' (fun h => (hA h).1))
  rw [e1] at h
  have e3 : (u.map (cv α')).toList ++ sm α rest = sm α' (u.toList ++ rest) := by
    rw [← e2]
    cases u <;> simp [sm]
  rw [e3]
  exact h
theorem G_contX {ν : MTy} {QX' : String → HS → Prop} {k' : Nat × Nat} {pc' : Nat} (hA : AOK μ ν L [] Y) (kx : ∀ (E : String) (Y' : HS), QX' E Y' → GX Γ μ R W E k' pc' L Y')
    {α0 : Nat → Nat} {Y0 : HS} {α : Nat → Nat} (E : Ext (mA μ) α0 Y0 α Y) : ∀ (N : String) (X' : HS), QXc Γ (mA ν) α Y QX' N X' → JX Γ μ R (W α0 Y0) N k' pc' (lm α L) X' := by
  rintro N X' ⟨α', Y', hq, C', E'⟩
  obtain ⟨e1, e2⟩ := hA.eq E'
  have h := kx N Y' hq α0 Y0 α' X' C' (E.trans E' (fun h => (hA h).1))
  rw [e1] at h
  exact h
theorem AOK.nil {ν : MTy} {rest : List Value} (h : AOK μ ν L rest Y) : AOK μ ν L [] Y := fun q => ⟨(h q).1, (h q).2.1, fun _ hr => nomatch hr⟩
theorem sm_stV {α : Nat → Nat} {st0 as rest : List Value} {b : Nat} (h : st0 = as.reverse ++ .ref b :: rest) : sm α st0 = (sm α as).reverse ++ .ref (α b) :: sm α rest := by
  rw [h]; simp [sm, cv]
theorem sm_stS {α : Nat → Nat} {st0 as rest : List Value} (h : st0 = as.reverse ++ rest) : sm α st0 = (sm α as).reverse ++ sm α rest := by
  rw [h]; simp [sm]
theorem sm_8 {α : Nat → Nat} {rest : List Value} {n : Nat} (h : (rest.map fun v => v.category).sum ≤ n) : ((sm α rest).map fun v => v.category).sum ≤ n := by
  rw [sm_cat]; exact h
theorem G_callV {ν : MTy} {n idx b cb : Nat} {as rest : List Value} {st0 : List Value} {QV' : Option Value → HS → Prop} {QX' : String → HS → Prop} (hM : MOK ν n) (hl : LkV (mN μ).cls idx ν) (hR : RmOk R ν k) (hb : xK Y b = cb) (hcb : cb < 10) (hcc : cN cb = (mN ν).cls) (hn : as.length = n) (hst : st0 = as.reverse ++ .ref b :: rest) (hcat : (rest.map fun v => v.category).sum ≤ 8) (hA : AOK μ ν L rest Y) (hd : decode (mC μ) pc = .ok (.invokevirtual idx, 3)) (hc : Tt Γ ν (.ref b :: as) Y QV' QX')
    (kk : ∀ (v : Option Value) (Y' : HS), QV' v Y' → G Γ μ R W (k.1 + mM ν, k.2 + mS ν) (pc + 3) L (v.toList ++ rest) Y') (kx : ∀ (E : String) (Y' : HS), QX' E Y' → GX Γ μ R W E (k.1 + mM ν, k.2 + mS ν) pc L Y') : G Γ μ R W k pc L st0 Y :=
  fun α0 Y0 α X C E => J_callV hM hl hR (C.K hb (by omega)) hcb hcc (as := sm α as) (by simpa [sm] using hn) (sm_stV hst) (sm_8 hcat) hd (hc α X C) (G_contV hA kk E) (G_contX hA.nil kx E)
theorem G_callS {ν : MTy} {n idx : Nat} {as rest : List Value} {st0 : List Value} {QV' : Option Value → HS → Prop} {QX' : String → HS → Prop} (hM : MOK ν n) (hl : LkS (mN μ).cls idx ν) (hR : RmOk R ν k) (hn : as.length = n) (hst : st0 = as.reverse ++ rest) (hcat : (rest.map fun v => v.category).sum ≤ 8) (hA : AOK μ ν L rest Y) (hd : decode (mC μ) pc = .ok (.invokestatic idx, 3)) (hc : Tt Γ ν as Y QV' QX')
    (kk : ∀ (v : Option Value) (Y' : HS), QV' v Y' → G Γ μ R W (k.1 + mM ν, k.2 + mS ν) (pc + 3) L (v.toList ++ rest) Y') (kx : ∀ (E : String) (Y' : HS), QX' E Y' → GX Γ μ R W E (k.1 + mM ν, k.2 + mS ν) pc L Y') : G Γ μ R W k pc L st0 Y :=
  fun α0 Y0 α X C E => J_callS hM hl hR (as := sm α as) (by simpa [sm] using hn) (sm_stS hst) (sm_8 hcat) hd (hc α X C) (G_contV hA kk E) (G_contX hA.nil kx E)
theorem G_callSW {ν : MTy} {n idx : Nat} {as rest : List Value} {st0 : List Value} {QV' : Option Value → HS → Prop} {QX' : String → HS → Prop} (hM : MOW ν n) (hl : LkS (mN μ).cls idx ν) (hR : RmOk R ν k) (hn : as.length = n) (hst : st0 = as.reverse ++ rest) (hcat : (rest.map fun v => v.category).sum ≤ 8) (hA : AOK μ ν L rest Y) (hd : decode (mC μ) pc = .ok (.invokestatic idx, 3)) (hc : Tw Γ ν as Y QV' QX')
    (kk : ∀ (v : Option Value) (Y' : HS), QV' v Y' → G Γ μ R W (k.1 + mM ν, k.2 + mS ν) (pc + 3) L (v.toList ++ rest) Y') (kx : ∀ (E : String) (Y' : HS), QX' E Y' → GX Γ μ R W E (k.1 + mM ν, k.2 + mS ν) pc L Y') : G Γ μ R W k pc L st0 Y :=
  fun α0 Y0 α X C E => J_callSW hM hl hR (as := sm α as) (by simpa [sm] using hn) (sm_stS hst) (sm_8 hcat) hd (hc α X C) (G_contV hA kk E) (G_contX hA.nil kx E)
theorem G_callVn {ν : MTy} {n idx b cb : Nat} {as rest : List Value} {st0 : List Value} {QV' : Option Value → HS → Prop} (hM : MOK ν n) (hl : LkV (mN μ).cls idx ν) (hR : RmOk R ν k) (hb : xK Y b = cb) (hcb : cb < 10) (hcc : cN cb = (mN ν).cls) (hn : as.length = n) (hst : st0 = as.reverse ++ .ref b :: rest) (hcat : (rest.map fun v => v.category).sum ≤ 8) (hA : AOK μ ν L rest Y) (hd : decode (mC μ) pc = .ok (.invokevirtual idx, 3)) (hc : Tn Γ ν (.ref b :: as) Y QV')
    (kk : ∀ (v : Option Value) (Y' : HS), QV' v Y' → G Γ μ R W (k.1 + mM ν, k.2 + mS ν) (pc + 3) L (v.toList ++ rest) Y') : G Γ μ R W k pc L st0 Y :=
  fun α0 Y0 α X C E => J_callVn hM hl hR (C.K hb (by omega)) hcb hcc (as := sm α as) (by simpa [sm] using hn) (sm_stV hst) (sm_8 hcat) hd (hc α X C) (G_contV hA kk E)
theorem G_callSn {ν : MTy} {n idx : Nat} {as rest : List Value} {st0 : List Value} {QV' : Option Value → HS → Prop} (hM : MOK ν n) (hl : LkS (mN μ).cls idx ν) (hR : RmOk R ν k) (hn : as.length = n) (hst : st0 = as.reverse ++ rest) (hcat : (rest.map fun v => v.category).sum ≤ 8) (hA : AOK μ ν L rest Y) (hd : decode (mC μ) pc = .ok (.invokestatic idx, 3)) (hc : Tn Γ ν as Y QV')
    (kk : ∀ (v : Option Value) (Y' : HS), QV' v Y' → G Γ μ R W (k.1 + mM ν, k.2 + mS ν) (pc + 3) L (v.toList ++ rest) Y') : G Γ μ R W k pc L st0 Y :=
  fun α0 Y0 α X C E => J_callSn hM hl hR (as := sm α as) (by simpa [sm] using hn) (sm_stS hst) (sm_8 hcat) hd (hc α X C) (G_contV hA kk E)
theorem G_callNS {ν : MTy} {n idx : Nat} {host : String} {as rest : List Value} {st0 : List Value} {QV' : Option Value → HS → Prop} (hM : MOK ν n) (hl : LkNS (mN μ).cls idx host ν) (hR : RmOk R ν k) (hn : as.length = n) (hst : st0 = as.reverse ++ rest) (hcat : (rest.map fun v => v.category).sum ≤ 8) (hA : AOK μ ν L rest Y) (hd : decode (mC μ) pc = .ok (.invokestatic idx, 3)) (hc : Tn Γ ν as Y QV')
    (kk : ∀ (v : Option Value) (Y' : HS), QV' v Y' → G Γ μ R W (k.1 + mM ν, k.2 + mS ν) (pc + 3) L (v.toList ++ rest) Y') : G Γ μ R W k pc L st0 Y :=
  fun α0 Y0 α X C E => J_callNS hM hl hR (as := sm α as) (by simpa [sm] using hn) (sm_stS hst) (sm_8 hcat) hd (hc α X C) (G_contV hA kk E)
theorem G_callNI {ν : MTy} {n idx b : Nat} {host : String} {as rest : List Value} {st0 : List Value} {QV' : Option Value → HS → Prop} (hM : MOK ν n) (hl : LkNI (mN μ).cls idx host ν) (hR : RmOk R ν k) (hn : as.length = n) (hst : st0 = as.reverse ++ .ref b :: rest) (hcat : (rest.map fun v => v.category).sum ≤ 8) (hA : AOK μ ν L rest Y) (hd : decode (mC μ) pc = .ok (.invokespecial idx, 3)) (hc : Tn Γ ν (.ref b :: as) Y QV')
    (kk : ∀ (v : Option Value) (Y' : HS), QV' v Y' → G Γ μ R W (k.1 + mM ν, k.2 + mS ν) (pc + 3) L (v.toList ++ rest) Y') : G Γ μ R W k pc L st0 Y :=
  fun α0 Y0 α X C E => J_callNI hM hl hR (as := sm α as) (by simpa [sm] using hn) (sm_stV hst) (sm_8 hcat) hd (hc α X C) (G_contV hA kk E)
theorem G_callI {ν : MTy} {n idx b : Nat} {as rest : List Value} {st0 : List Value} {QV' : Option Value → HS → Prop} (hM : MOK ν n) (hl : LkI (mN μ).cls idx ν) (hR : RmOk R ν k) (hn : as.length = n) (hst : st0 = as.reverse ++ .ref b :: rest) (hcat : (rest.map fun v => v.category).sum ≤ 8) (hA : AOK μ ν L rest Y) (hd : decode (mC μ) pc = .ok (.invokespecial idx, 3)) (hc : Tn Γ ν (.ref b :: as) Y QV')
    (kk : ∀ (v : Option Value) (Y' : HS), QV' v Y' → G Γ μ R W (k.1 + mM ν, k.2 + mS ν) (pc + 3) L (v.toList ++ rest) Y') : G Γ μ R W k pc L st0 Y :=
  fun α0 Y0 α X C E => J_callI hM hl hR (as := sm α as) (by simpa [sm] using hn) (sm_stV hst) (sm_8 hcat) hd (hc α X C) (G_contV hA kk E)
theorem G_callU {ν : MTy} {n idx b cb : Nat} {owner : String} {x : MethodName} {as rest : List Value} {st0 : List Value} {QV' : Option Value → HS → Prop} (hM : MOK ν n) (hl : LkU (mN μ).cls idx (cN cb) owner x ν) (hx : (parseMethodDescriptor x.desc).map (fun d => d.parameters.length) = some n) (hR : RmOk R ν k) (hb : xK Y b = cb) (hcb : cb < 10) (hn : as.length = n) (hst : st0 = as.reverse ++ .ref b :: rest) (hcat : (rest.map fun v => v.category).sum ≤ 8) (hA : AOK μ ν L rest Y) (hd : decode (mC μ) pc = .ok (.invokevirtual idx, 3)) (hc : Tn Γ ν (.ref b :: as) Y QV')
    (kk : ∀ (v : Option Value) (Y' : HS), QV' v Y' → G Γ μ R W (k.1 + mM ν, k.2 + mS ν) (pc + 3) L (v.toList ++ rest) Y') : G Γ μ R W k pc L st0 Y :=
  fun α0 Y0 α X C E => J_callU hM hl hx hR (C.K hb (by omega)) hcb (as := sm α as) (by simpa [sm] using hn) (sm_stV hst) (sm_8 hcat) hd (hc α X C) (G_contV hA kk E)
theorem G_objInit {idx a : Nat} {rest : List Value} (hl : Cond.methodLink (mN μ).cls idx Lib.objectInit ∈ BW) (hw : Cond.instanceMethod Lib.objectInit ∈ BW ∧ Cond.code Lib.objectInit ⟨#[0xb1]⟩ 1 none ∈ BW) (hf : 1 ≤ R.frames ∧ (rest.map fun v => v.category).sum + 12 ≤ R.locals) (hd : decode (mC μ) pc = .ok (.invokespecial idx, 3)) (kk : G Γ μ R W k (pc + 3) L rest Y) : G Γ μ R W k pc L (.ref a :: rest) Y :=
  fun α0 Y0 α X C E => J_objInit (a := α a) (rest := sm α rest) hl hw ⟨hf.1, by rw [sm_cat]; exact hf.2⟩ hd (kk α0 Y0 α X C E)
theorem G_max {idx : Nat} {x y : Int32} {rest : List Value} (hl : Cond.methodLink (mN μ).cls idx Lib.Math.max.name ∈ BW) (hw : Cond.static Lib.Math.max.name ∈ BW ∧ Cond.initialized "java/lang/Math" ∈ BW ∧ Cond.code Lib.Math.max.name Lib.Math.max.code 2 (some .int) ∈ BW) (hf : 1 ≤ R.frames ∧ (rest.map fun v => v.category).sum + 13 ≤ R.locals) (hk : k.1 ≤ R.cells ∧ k.2 ≤ R.slots) (hd : decode (mC μ) pc = .ok (.invokestatic idx, 3)) (kk : G Γ μ R W k (pc + 3) L (.int (if x < y then y else x) :: rest) Y) : G Γ μ R W k pc L (.int y :: .int x :: rest) Y :=
  fun α0 Y0 α X C E => J_max (rest := sm α rest) hl hw ⟨hf.1, by rw [sm_cat]; exact hf.2⟩ hk hd (kk α0 Y0 α X C E)
theorem G_min {idx : Nat} {x y : Int32} {rest : List Value} (hl : Cond.methodLink (mN μ).cls idx Lib.Math.min.name ∈ BW) (hw : Cond.static Lib.Math.min.name ∈ BW ∧ Cond.initialized "java/lang/Math" ∈ BW ∧ Cond.code Lib.Math.min.name Lib.Math.min.code 2 (some .int) ∈ BW) (hf : 1 ≤ R.frames ∧ (rest.map fun v => v.category).sum + 13 ≤ R.locals) (hk : k.1 ≤ R.cells ∧ k.2 ≤ R.slots) (hd : decode (mC μ) pc = .ok (.invokestatic idx, 3)) (kk : G Γ μ R W k (pc + 3) L (.int (if y < x then y else x) :: rest) Y) : G Γ μ R W k pc L (.int y :: .int x :: rest) Y :=
  fun α0 Y0 α X C E => J_min (rest := sm α rest) hl hw ⟨hf.1, by rw [sm_cat]; exact hf.2⟩ hk hd (kk α0 Y0 α X C E)
theorem GX_out {E : String} (hh : mH μ = []) (hk : k.1 ≤ mM μ ∧ k.2 ≤ mS μ) (hq : QX E Y) : GX Γ μ R (Vt Γ μ QV QX) E k pc L Y :=
  fun α0 Y0 α X C Ex => JX_out hh hk ⟨α, Y, hq, C, Ex⟩
theorem G_throw {E : String} {ik is ic : Nat} (hT : TW (mN μ).cls E ik is ic) (hh : mH μ = []) (d0 : decode (mC μ) pc = .ok (.new ik, 3)) (d3 : decode (mC μ) (pc + 3) = .ok (.dup, 1)) (d4 : decode (mC μ) (pc + 4) = .ok (.ldc is, 2)) (d6 : decode (mC μ) (pc + 6) = .ok (.invokespecial ic, 3)) (d9 : decode (mC μ) (pc + 9) = .ok (.athrow, 1))
    (hR : 5 < R.frames ∧ (st.map fun v => v.category).sum + 82 ≤ R.locals ∧ k.1 + 1 ≤ R.cells ∧ k.2 + 6 ≤ R.slots) (hc : k.1 + 1 ≤ mM μ ∧ k.2 + 6 ≤ mS μ) (hq : QX E Y) : G Γ μ R (Vt Γ μ QV QX) k pc L st Y :=
  fun α0 Y0 α X C Ex => J_throw hT hh d0 d3 d4 d6 d9 ⟨hR.1, by rw [sm_cat]; exact hR.2.1, hR.2.2⟩ hc ⟨α, Y, hq, C, Ex⟩
theorem G_throwW {E : String} {ik is ic : Nat} (hT : TW (mN μ).cls E ik is ic) (hh : mH μ = []) (d0 : decode (mC μ) pc = .ok (.new ik, 3)) (d3 : decode (mC μ) (pc + 3) = .ok (.dup, 1)) (d4 : decode (mC μ) (pc + 4) = .ok (.ldc_w is, 3)) (d7 : decode (mC μ) (pc + 7) = .ok (.invokespecial ic, 3)) (d10 : decode (mC μ) (pc + 10) = .ok (.athrow, 1))
    (hR : 5 < R.frames ∧ (st.map fun v => v.category).sum + 82 ≤ R.locals ∧ k.1 + 1 ≤ R.cells ∧ k.2 + 6 ≤ R.slots) (hc : k.1 + 1 ≤ mM μ ∧ k.2 + 6 ≤ mS μ) (hq : QX E Y) : G Γ μ R (Vt Γ μ QV QX) k pc L st Y :=
  fun α0 Y0 α X C Ex => J_throwW hT hh d0 d3 d4 d7 d10 ⟨hR.1, by rw [sm_cat]; exact hR.2.1, hR.2.2⟩ hc ⟨α, Y, hq, C, Ex⟩
/-- caught: the handler puts the exception into a local and goes on -/
theorem J_weak {Z : List Frame → Array Value → State → State → Prop} {L1 L2 : List (Option Value)} {X : HS} {st : List Value} (h : ∀ (i : Nat) (v : Value), L2[i]? = some (some v) → L1[i]? = some (some v)) (kk : J Γ μ R Z k pc L2 st X) : J Γ μ R Z k pc L1 st X :=
  fun p e s m args below meth c H locs ls C S P Lr => kk p e s m args below meth c H locs ls C S P ⟨Lr.1, Lr.2.1, fun i v hi => Lr.2.2 i v (h i v hi)⟩
theorem GX_catch {E name : String} (pre : List ExceptionTableEntry) (x : ExceptionTableEntry) (suf : List ExceptionTableEntry) (hsplit : tableOf (mH μ) = pre ++ x :: suf) (hpass : ∀ z ∈ pre, covers z pc = false ∨ (z.catchType ≠ 0 ∧ ∃ nm : String, Cond.classLink (mN μ).cls z.catchType nm ∈ BW ∧ (E, nm) ∈ nCL)) (hx : covers x pc = true) (h0 : x.catchType ≠ 0) (hl : Cond.classLink (mN μ).cls x.catchType name ∈ BW) (hc : Cond.castable E name ∈ XW) {hp i len : Nat} (hpc : x.handlerPc = hp)
    (hd : (∃ n : Fin 4, (n : Nat) = i ∧ len = 1 ∧ decode (mC μ) hp = .ok (.astore_n n, 1)) ∨ (len = 2 ∧ decode (mC μ) hp = .ok (.astore i, 2))) (hn : i < mL μ) (kk : G Γ μ R W k (hp + len) (L.set i none) [] Y) : GX Γ μ R W E k pc L Y := by
  intro α0 Y0 α X C Ex
  refine JX_catch pre x suf hsplit hpass hx h0 hl hc hpc (fun q => ?_)
  have K := kk α0 Y0 α X C Ex
  have key : ∀ (j : Nat) (v : Value), (lm α (L.set i none))[j]? = some (some v) → ((lm α L).set i (some (.ref q)))[j]? = some (some v) := by
    intro j v hj
    by_cases e : j = i
    · subst e
      simp only [lm, List.getElem?_map, List.getElem?_set_self'] at hj
      cases hL : L[j]? <;> rw [hL] at hj <;> simp at hj
    · rw [List.getElem?_set_ne (Ne.symm e)]
      simp only [lm, List.getElem?_map, List.getElem?_set_ne (Ne.symm e)] at hj ⊢
      exact hj
  rcases hd with ⟨n, rfl, rfl, hd⟩ | ⟨rfl, hd⟩
  · exact J_astore_n hd hn (J_weak key K)
  · exact J_astore hd hn (J_weak key K)
-- new cells
theorem Ext.new {α0 α α' : Nat → Nat} {Y0 Y' : HS} {z q c : Nat} (E : Ext (mA μ) α0 Y0 α Y) (hA : mA μ = true) (hid : xK Y z = 99) (e1 : α' = va_up α z q) (e2 : xK Y' = va_up (xK Y) z c) (hc : c ≠ 99) : Ext (mA μ) α0 Y0 α' Y' := by
  rw [hA] at E ⊢
  intro a ha
  obtain ⟨h1, h2⟩ := E a ha
  have hne : a ≠ z := fun e => h2 (by rw [e]; exact hid)
  rw [e1, e2, va_up_ne _ _ hne, va_up_ne _ _ hne]
  exact ⟨h1, h2⟩
theorem fresh_eq {α : Nat → Nat} {z q : Nat} (h1 : z ∉ rfs L) (h2 : z ∉ rfv st) : lm (va_up α z q) L = lm α L ∧ sm (va_up α z q) st = sm α st :=
  ⟨lm_eq (fun r hr => va_up_ne _ _ (fun e => h1 (e ▸ hr))), sm_eq (fun r hr => va_up_ne _ _ (fun e => h2 (e ▸ hr)))⟩
theorem fresh_top {α : Nat → Nat} {z q : Nat} (h2 : z ∉ rfv st) : sm (va_up α z q) (.ref z :: st) = .ref q :: sm α st := by
  show cv (va_up α z q) (.ref z) :: sm (va_up α z q) st = _
  rw [(fresh_eq (L := []) (fun h => nomatch h) h2).2]
  simp [cv, va_up_self]
theorem CR.mk9 {α : Nat → Nat} {X : HS} (C : CR Γ α Y X) {z q c n : Nat} {f : Nat → Int32} (hid : xK Y z = 99) (hlt : z < 1000000000) (hq : q ∉ xL X) (hc : c ≠ 99) : CR Γ (va_up α z q) (nX Y z c n f) (nX X q c n f) :=
  C.new (c := c) hid hlt hq hc rfl rfl rfl rfl
    ⟨by simp [nX, xn, va_up_self], fun c k => by simp [nX, xI], fun c k => by simp [nX, xR], fun i => by simp [nX, xA, va_up_self], fun i => by simp [nX, xJ, va_up_self], fun i => by simp [nX, xP, va_up_self]⟩
    (fun a b ha hb => ⟨⟨va_up_ne _ _ ha, va_up_ne _ _ hb⟩, fun c k => by simp [nX, xI, ha, hb], fun c k => by simp [nX, xR, ha, hb], fun i => ⟨congrFun (va_up_ne _ _ ha) i, congrFun (va_up_ne _ _ hb) i⟩, fun i => ⟨congrFun (va_up_ne _ _ ha) i, congrFun (va_up_ne _ _ hb) i⟩, fun i => ⟨congrFun (va_up_ne _ _ ha) i, congrFun (va_up_ne _ _ hb) i⟩⟩)
theorem G_fresh {z c n : Nat} {f : Nat → Int32} {k' : Nat × Nat} {pc' : Nat} (hA : mA μ = true) (hid : xK Y z = 99) (hlt : z < 1000000000) (hf : z ∉ rfs L ∧ z ∉ rfv st) (hc : c ≠ 99) (kk : G Γ μ R W k' pc' L (.ref z :: st) (nX Y z c n f)) {α0 : Nat → Nat} {Y0 : HS} {α : Nat → Nat} {X : HS} (C : CR Γ α Y X) (E : Ext (mA μ) α0 Y0 α Y) : ∀ q : Nat, q ∉ xL X → xK X q = 99 → J Γ μ R (W α0 Y0) k' pc' (lm α L) (.ref q :: sm α st) (nX X q c n f) := by
  intro q hq hk
  have h := kk α0 Y0 _ _ (C.mk9 hid hlt hq hc) (E.new hA hid rfl rfl hc)
  rw [(fresh_eq (α := α) (q := q) hf.1 hf.2).1, fresh_top hf.2] at h
  exact h
theorem G_new {c idx : Nat} (z : Nat) (hA : mA μ = true) (hid : xK Y z = 99) (hlt : z < 1000000000) (hf : z ∉ rfs L ∧ z ∉ rfv st) (hc : c < 10) (hl : Cond.classLink (mN μ).cls idx (cN c) ∈ BW) (hi : Cond.instantiable (cN c) (nf c) ∈ BW) (h0 : Cond.initialized (cN c) ∈ BW) (hR : k.1 + 1 ≤ R.cells ∧ k.2 + nf c ≤ R.slots) (hd : decode (mC μ) pc = .ok (.new idx, 3))
    (kk : G Γ μ R W (k.1 + 1, k.2 + nf c) (pc + 3) L (.ref z :: st) (nO Y z c)) : G Γ μ R W k pc L st Y :=
  fun α0 Y0 α X C E => J_new hc hl hi h0 hR hd (G_fresh hA hid hlt hf (by omega) kk C E)
theorem G_newI {n : Int32} {N : Nat} (z : Nat) (hA : mA μ = true) (hid : xK Y z = 99) (hlt : z < 1000000000) (hf : z ∉ rfs L ∧ z ∉ rfv st) (hw : Cond.arrayClass .int ∈ BW) (hn : n = nI N) (hN : N < 2 ^ 27) (hR : k.1 + 1 ≤ R.cells ∧ k.2 + N ≤ R.slots) (hd : decode (mC μ) pc = .ok (.newarray .int, 2))
    (kk : G Γ μ R W (k.1 + 1, k.2 + N) (pc + 2) L (.ref z :: st) (nA Y z 10 N (fun _ => 0))) : G Γ μ R W k pc L (.int n :: st) Y :=
  fun α0 Y0 α X C E => J_newI hw hn hN hR hd (G_fresh hA hid hlt hf (by omega) kk C E)
theorem G_newZ {n : Int32} {N : Nat} (z : Nat) (hA : mA μ = true) (hid : xK Y z = 99) (hlt : z < 1000000000) (hf : z ∉ rfs L ∧ z ∉ rfv st) (hw : Cond.arrayClass .boolean ∈ BW) (hn : n = nI N) (hN : N < 2 ^ 27) (hR : k.1 + 1 ≤ R.cells ∧ k.2 + N ≤ R.slots) (hd : decode (mC μ) pc = .ok (.newarray .boolean, 2))
    (kk : G Γ μ R W (k.1 + 1, k.2 + N) (pc + 2) L (.ref z :: st) (nA Y z 11 N (fun _ => 0))) : G Γ μ R W k pc L (.int n :: st) Y :=
  fun α0 Y0 α X C E => J_newZ hw hn hN hR hd (G_fresh hA hid hlt hf (by omega) kk C E)
theorem G_newJ {n : Int32} {N : Nat} (z : Nat) (hA : mA μ = true) (hid : xK Y z = 99) (hlt : z < 1000000000) (hf : z ∉ rfs L ∧ z ∉ rfv st) (hw : Cond.arrayClass .long ∈ BW) (hn : n = nI N) (hN : N < 2 ^ 26) (hR : k.1 + 1 ≤ R.cells ∧ k.2 + N ≤ R.slots) (hd : decode (mC μ) pc = .ok (.newarray .long, 2))
    (kk : G Γ μ R W (k.1 + 1, k.2 + N) (pc + 2) L (.ref z :: st) (nJ Y z 18 N)) : G Γ μ R W k pc L (.int n :: st) Y :=
  fun α0 Y0 α X C E => J_newJ hw hn hN hR hd (G_fresh hA hid hlt hf (by omega) kk C E)
theorem G_newP {n : Int32} {N c idx : Nat} (z : Nat) (hA : mA μ = true) (hid : xK Y z = 99) (hlt : z < 1000000000) (hf : z ∉ rfs L ∧ z ∉ rfv st) (hc : 12 ≤ c ∧ c < 18) (hl : Cond.classLink (mN μ).cls idx (eC c) ∈ BW) (hw : Cond.arrayOver (.object (eC c)) ∈ XW) (hn : n = nI N) (hN : N < 2 ^ 27) (hR : k.1 + 1 ≤ R.cells ∧ k.2 + N ≤ R.slots) (hd : decode (mC μ) pc = .ok (.anewarray idx, 3))
    (kk : G Γ μ R W (k.1 + 1, k.2 + N) (pc + 3) L (.ref z :: st) (nP Y z c N)) : G Γ μ R W k pc L (.int n :: st) Y :=
  fun α0 Y0 α X C E => J_newP hc hl hw hn hN hR hd (G_fresh hA hid hlt hf (by omega) kk C E)
-- statics
theorem G_getst {i idx : Nat} (hi : i < 4) (hl : Cond.fieldLink (mN μ).cls idx "BaulkHall" (nSt i) "[I" ∈ BW ∨ ∃ host, Cond.fieldLinkNest (mN μ).cls idx "BaulkHall" (nSt i) "[I" host ∈ XW) (hd : decode (mC μ) pc = .ok (.getstatic idx, 3)) (kk : G Γ μ R W k (pc + 3) L (.ref (sid i) :: st) Y) : G Γ μ R W k pc L st Y := by
  intro α0 Y0 α X C E
  have h := kk α0 Y0 α X C E
  have e : sm α (.ref (sid i) :: st) = .ref (gt Γ i).1 :: sm α st := by
    show Value.ref (α (sid i)) :: sm α st = _
    rw [C.2.2.2.2.1 i (by omega)]
  rw [e] at h
  exact J_getst hi hl hd h
theorem G_sald {i j : Nat} {x : Int32} (hi : i < 5) (hx : x = nI j) (hj : j < (gt Γ i).2.1) (h2 : j < 2 ^ 31) (hd : decode (mC μ) pc = .ok (.iaload, 1)) (kk : G Γ μ R W k (pc + 1) L (.int ((gt Γ i).2.2 j) :: st) Y) : G Γ μ R W k pc L (.int x :: .ref (sid i) :: st) Y := by
  intro α0 Y0 α X C E
  have e : sm α (.int x :: .ref (sid i) :: st) = .int x :: .ref (gt Γ i).1 :: sm α st := by
    show Value.int x :: Value.ref (α (sid i)) :: sm α st = _
    rw [C.2.2.2.2.1 i (by omega)]
  rw [e]
  exact J_sald hi hx hj h2 hd (kk α0 Y0 α X C E)
theorem G_slen {i : Nat} {v : Int32} (hi : i < 5) (hv : nI (gt Γ i).2.1 = v) (hd : decode (mC μ) pc = .ok (.arraylength, 1)) (kk : G Γ μ R W k (pc + 1) L (.int v :: st) Y) : G Γ μ R W k pc L (.ref (sid i) :: st) Y := by
  intro α0 Y0 α X C E
  have e : sm α (.ref (sid i) :: st) = .ref (gt Γ i).1 :: sm α st := by
    show Value.ref (α (sid i)) :: sm α st = _
    rw [C.2.2.2.2.1 i (by omega)]
  rw [e]
  exact J_slen hi hv hd (kk α0 Y0 α X C E)
theorem G_clone {i idx : Nat} (z : Nat) (hA : mA μ = true) (hid : xK Y z = 99) (hlt : z < 1000000000) (hf : z ∉ rfs L ∧ z ∉ rfv st) (hi : i < 4) (hl : Cond.methodLink (mN μ).cls idx ⟨"[I", "clone", "()Ljava/lang/Object;"⟩ ∈ BW) (hw : Cond.sameMethod "[I" "java/lang/Object" "clone" "()Ljava/lang/Object;" ∈ BW ∧ Cond.native ⟨"java/lang/Object", "clone", "()Ljava/lang/Object;"⟩ ∈ BW ∧ Cond.instanceMethod ⟨"java/lang/Object", "clone", "()Ljava/lang/Object;"⟩ ∈ BW ∧ Cond.selects "[I" ⟨"[I", "clone", "()Ljava/lang/Object;"⟩ ⟨"java/lang/Object", "clone", "()Ljava/lang/Object;"⟩ ∈ BW ∧ Cond.castable "[I" "java/lang/Cloneable" ∈ XW) (hfr : 1 ≤ R.frames ∧ (st.map fun v => v.category).sum + 14 ≤ R.locals) (hR : k.1 + 1 ≤ R.cells ∧ k.2 + (gt Γ i).2.1 ≤ R.slots) (hd : decode (mC μ) pc = .ok (.invokevirtual idx, 3))
    (kk : G Γ μ R W (k.1 + 1, k.2 + (gt Γ i).2.1) (pc + 3) L (.ref z :: st) (nA Y z 10 (gt Γ i).2.1 (gt Γ i).2.2)) : G Γ μ R W k pc L (.ref (sid i) :: st) Y := by
  intro α0 Y0 α X C E
  have e : sm α (.ref (sid i) :: st) = .ref (gt Γ i).1 :: sm α st := by
    show Value.ref (α (sid i)) :: sm α st = _
    rw [C.2.2.2.2.1 i (by omega)]
  rw [e]
  exact J_clone hi hl hw ⟨hfr.1, by rw [sm_cat]; exact hfr.2⟩ hR hd (G_fresh hA hid hlt hf (by omega) kk C E)
theorem G_castI {idx a : Nat} (hk : xK Y a = 10) (hl : Cond.classLink (mN μ).cls idx "[I" ∈ BW) (hd : decode (mC μ) pc = .ok (.checkcast idx, 3)) (kk : G Γ μ R W k (pc + 3) L (.ref a :: st) Y) : G Γ μ R W k pc L (.ref a :: st) Y :=
  fun α0 Y0 α X C E => J_castI (C.K hk (by omega)) hl hd (kk α0 Y0 α X C E)
end GH
end
section
-- ===== calls by arity, with results told exactly =====
def rt (v : Option Value) (Z : HS) : Option Value → HS → Prop := fun v' Y' => v' = v ∧ Y' = Z
def rmB (R : Room) (ν : MTy) (k : Nat × Nat) (rest : List Value) : Bool := Nat.ble (mD ν + 1) R.frames && (Nat.ble (8 + (mL ν + 11) + 36 * mD ν) R.locals && (Nat.ble (k.1 + mM ν) R.cells && (Nat.ble (k.2 + mS ν) R.slots && Nat.ble (rest.map fun v => v.category).sum 8)))
theorem rmB_ok {R : Room} {ν : MTy} {k : Nat × Nat} {rest : List Value} (h : rmB R ν k rest = true) : RmOk R ν k ∧ (rest.map fun v => v.category).sum ≤ 8 := by
  simp only [rmB, Bool.and_eq_true] at h
  exact ⟨⟨⟨Nat.le_of_ble_eq_true h.1, Nat.le_of_ble_eq_true h.2.1⟩, Nat.le_of_ble_eq_true h.2.2.1, Nat.le_of_ble_eq_true h.2.2.2.1⟩, Nat.le_of_ble_eq_true h.2.2.2.2⟩
section KC
variable {Γ : GTy} {μ : MTy} {R : Room} {W : WTy} {k k' : Nat × Nat} {pc : Nat} {L : List (Option Value)} {Y Z : HS}
variable {QV : Option Value → HS → Prop} {QX : String → HS → Prop}
theorem aok0 {ν : MTy} {rest : List Value} (h : mA ν = false) : AOK μ ν L rest Y := fun h' => by rw [h] at h'; cases h'
theorem K_V0 {ν : MTy} {idx : Nat} {b cb : Nat} {rest : List Value} {QV' : Option Value → HS → Prop} {QX' : String → HS → Prop} (hM : MOK ν 0) (hl : LkV (mN μ).cls idx ν) (hb : xK Y b = cb) (hcb : Nat.blt cb 10 = true) (hcc : cN cb = (mN ν).cls) (hq : rmB R ν k rest = true) (hA : AOK μ ν L rest Y) (hd : decode (mC μ) pc = .ok (.invokevirtual idx, 3)) (hc : Tt Γ ν [.ref b] Y QV' QX') (hk : (k.1 + mM ν, k.2 + mS ν) = k') (kk : ∀ (v : Option Value) (Y' : HS), QV' v Y' → G Γ μ R W k' (pc + 3) L (v.toList ++ rest) Y') (kx : ∀ (E : String) (Y' : HS), QX' E Y' → GX Γ μ R W E k' pc L Y') : G Γ μ R W k pc L (.ref b :: rest) Y := by
  subst hk
  exact G_callV hM hl (rmB_ok hq).1 hb (Nat.lt_of_lt_of_le (Nat.le_of_ble_eq_true hcb) (Nat.le_refl _)) hcc (as := []) rfl rfl (rmB_ok hq).2 hA hd hc kk kx
theorem K_S0 {ν : MTy} {idx : Nat} {rest : List Value} {QV' : Option Value → HS → Prop} {QX' : String → HS → Prop} (hM : MOK ν 0) (hl : LkS (mN μ).cls idx ν) (hq : rmB R ν k rest = true) (hA : AOK μ ν L rest Y) (hd : decode (mC μ) pc = .ok (.invokestatic idx, 3)) (hc : Tt Γ ν [] Y QV' QX') (hk : (k.1 + mM ν, k.2 + mS ν) = k') (kk : ∀ (v : Option Value) (Y' : HS), QV' v Y' → G Γ μ R W k' (pc + 3) L (v.toList ++ rest) Y') (kx : ∀ (E : String) (Y' : HS), QX' E Y' → GX Γ μ R W E k' pc L Y') : G Γ μ R W k pc L (rest) Y := by
  subst hk
  exact G_callS hM hl (rmB_ok hq).1 (as := []) rfl rfl (rmB_ok hq).2 hA hd hc kk kx
theorem K_SW0 {ν : MTy} {idx : Nat} {rest : List Value} {QV' : Option Value → HS → Prop} {QX' : String → HS → Prop} (hM : MOW ν 0) (hl : LkS (mN μ).cls idx ν) (hq : rmB R ν k rest = true) (hA : AOK μ ν L rest Y) (hd : decode (mC μ) pc = .ok (.invokestatic idx, 3)) (hc : Tw Γ ν [] Y QV' QX') (hk : (k.1 + mM ν, k.2 + mS ν) = k') (kk : ∀ (v : Option Value) (Y' : HS), QV' v Y' → G Γ μ R W k' (pc + 3) L (v.toList ++ rest) Y') (kx : ∀ (E : String) (Y' : HS), QX' E Y' → GX Γ μ R W E k' pc L Y') : G Γ μ R W k pc L (rest) Y := by
  subst hk
  exact G_callSW hM hl (rmB_ok hq).1 (as := []) rfl rfl (rmB_ok hq).2 hA hd hc kk kx
theorem K_Vn0r {ν : MTy} {idx : Nat} {b cb : Nat} {rest : List Value} {u : Value} (hM : MOK ν 0) (hl : LkV (mN μ).cls idx ν) (hb : xK Y b = cb) (hcb : Nat.blt cb 10 = true) (hcc : cN cb = (mN ν).cls) (hq : rmB R ν k rest = true) (hA : AOK μ ν L rest Y) (hd : decode (mC μ) pc = .ok (.invokevirtual idx, 3)) (hc : Tn Γ ν [.ref b] Y (rt (some u) Z)) (hk : (k.1 + mM ν, k.2 + mS ν) = k') (kk : G Γ μ R W k' (pc + 3) L (u :: rest) Z) : G Γ μ R W k pc L (.ref b :: rest) Y := by
  subst hk
  exact G_callVn hM hl (rmB_ok hq).1 hb (Nat.lt_of_lt_of_le (Nat.le_of_ble_eq_true hcb) (Nat.le_refl _)) hcc (as := []) rfl rfl (rmB_ok hq).2 hA hd hc (by rintro _ _ ⟨rfl, rfl⟩; exact kk)
theorem K_Vn0v {ν : MTy} {idx : Nat} {b cb : Nat} {rest : List Value} (hM : MOK ν 0) (hl : LkV (mN μ).cls idx ν) (hb : xK Y b = cb) (hcb : Nat.blt cb 10 = true) (hcc : cN cb = (mN ν).cls) (hq : rmB R ν k rest = true) (hA : AOK μ ν L rest Y) (hd : decode (mC μ) pc = .ok (.invokevirtual idx, 3)) (hc : Tn Γ ν [.ref b] Y (rt none Z)) (hk : (k.1 + mM ν, k.2 + mS ν) = k') (kk : G Γ μ R W k' (pc + 3) L (rest) Z) : G Γ μ R W k pc L (.ref b :: rest) Y := by
  subst hk
  exact G_callVn hM hl (rmB_ok hq).1 hb (Nat.lt_of_lt_of_le (Nat.le_of_ble_eq_true hcb) (Nat.le_refl _)) hcc (as := []) rfl rfl (rmB_ok hq).2 hA hd hc (by rintro _ _ ⟨rfl, rfl⟩; exact kk)
theorem K_Sn0r {ν : MTy} {idx : Nat} {rest : List Value} {u : Value} (hM : MOK ν 0) (hl : LkS (mN μ).cls idx ν) (hq : rmB R ν k rest = true) (hA : AOK μ ν L rest Y) (hd : decode (mC μ) pc = .ok (.invokestatic idx, 3)) (hc : Tn Γ ν [] Y (rt (some u) Z)) (hk : (k.1 + mM ν, k.2 + mS ν) = k') (kk : G Γ μ R W k' (pc + 3) L (u :: rest) Z) : G Γ μ R W k pc L (rest) Y := by
  subst hk
  exact G_callSn hM hl (rmB_ok hq).1 (as := []) rfl rfl (rmB_ok hq).2 hA hd hc (by rintro _ _ ⟨rfl, rfl⟩; exact kk)
theorem K_Sn0v {ν : MTy} {idx : Nat} {rest : List Value} (hM : MOK ν 0) (hl : LkS (mN μ).cls idx ν) (hq : rmB R ν k rest = true) (hA : AOK μ ν L rest Y) (hd : decode (mC μ) pc = .ok (.invokestatic idx, 3)) (hc : Tn Γ ν [] Y (rt none Z)) (hk : (k.1 + mM ν, k.2 + mS ν) = k') (kk : G Γ μ R W k' (pc + 3) L (rest) Z) : G Γ μ R W k pc L (rest) Y := by
  subst hk
  exact G_callSn hM hl (rmB_ok hq).1 (as := []) rfl rfl (rmB_ok hq).2 hA hd hc (by rintro _ _ ⟨rfl, rfl⟩; exact kk)
theorem K_NS0r {ν : MTy} {idx : Nat} {host : String} {rest : List Value} {u : Value} (hM : MOK ν 0) (hl : LkNS (mN μ).cls idx host ν) (hq : rmB R ν k rest = true) (hA : AOK μ ν L rest Y) (hd : decode (mC μ) pc = .ok (.invokestatic idx, 3)) (hc : Tn Γ ν [] Y (rt (some u) Z)) (hk : (k.1 + mM ν, k.2 + mS ν) = k') (kk : G Γ μ R W k' (pc + 3) L (u :: rest) Z) : G Γ μ R W k pc L (rest) Y := by
  subst hk
  exact G_callNS hM hl (rmB_ok hq).1 (as := []) rfl rfl (rmB_ok hq).2 hA hd hc (by rintro _ _ ⟨rfl, rfl⟩; exact kk)
theorem K_NS0v {ν : MTy} {idx : Nat} {host : String} {rest : List Value} (hM : MOK ν 0) (hl : LkNS (mN μ).cls idx host ν) (hq : rmB R ν k rest = true) (hA : AOK μ ν L rest Y) (hd : decode (mC μ) pc = .ok (.invokestatic idx, 3)) (hc : Tn Γ ν [] Y (rt none Z)) (hk : (k.1 + mM ν, k.2 + mS ν) = k') (kk : G Γ μ R W k' (pc + 3) L (rest) Z) : G Γ μ R W k pc L (rest) Y := by
  subst hk
  exact G_callNS hM hl (rmB_ok hq).1 (as := []) rfl rfl (rmB_ok hq).2 hA hd hc (by rintro _ _ ⟨rfl, rfl⟩; exact kk)
theorem K_NI0r {ν : MTy} {idx : Nat} {b : Nat} {host : String} {rest : List Value} {u : Value} (hM : MOK ν 0) (hl : LkNI (mN μ).cls idx host ν) (hq : rmB R ν k rest = true) (hA : AOK μ ν L rest Y) (hd : decode (mC μ) pc = .ok (.invokespecial idx, 3)) (hc : Tn Γ ν [.ref b] Y (rt (some u) Z)) (hk : (k.1 + mM ν, k.2 + mS ν) = k') (kk : G Γ μ R W k' (pc + 3) L (u :: rest) Z) : G Γ μ R W k pc L (.ref b :: rest) Y := by
  subst hk
  exact G_callNI hM hl (rmB_ok hq).1 (as := []) rfl rfl (rmB_ok hq).2 hA hd hc (by rintro _ _ ⟨rfl, rfl⟩; exact kk)
theorem K_NI0v {ν : MTy} {idx : Nat} {b : Nat} {host : String} {rest : List Value} (hM : MOK ν 0) (hl : LkNI (mN μ).cls idx host ν) (hq : rmB R ν k rest = true) (hA : AOK μ ν L rest Y) (hd : decode (mC μ) pc = .ok (.invokespecial idx, 3)) (hc : Tn Γ ν [.ref b] Y (rt none Z)) (hk : (k.1 + mM ν, k.2 + mS ν) = k') (kk : G Γ μ R W k' (pc + 3) L (rest) Z) : G Γ μ R W k pc L (.ref b :: rest) Y := by
  subst hk
  exact G_callNI hM hl (rmB_ok hq).1 (as := []) rfl rfl (rmB_ok hq).2 hA hd hc (by rintro _ _ ⟨rfl, rfl⟩; exact kk)
theorem K_I0r {ν : MTy} {idx : Nat} {b : Nat} {rest : List Value} {u : Value} (hM : MOK ν 0) (hl : LkI (mN μ).cls idx ν) (hq : rmB R ν k rest = true) (hA : AOK μ ν L rest Y) (hd : decode (mC μ) pc = .ok (.invokespecial idx, 3)) (hc : Tn Γ ν [.ref b] Y (rt (some u) Z)) (hk : (k.1 + mM ν, k.2 + mS ν) = k') (kk : G Γ μ R W k' (pc + 3) L (u :: rest) Z) : G Γ μ R W k pc L (.ref b :: rest) Y := by
  subst hk
  exact G_callI hM hl (rmB_ok hq).1 (as := []) rfl rfl (rmB_ok hq).2 hA hd hc (by rintro _ _ ⟨rfl, rfl⟩; exact kk)
theorem K_I0v {ν : MTy} {idx : Nat} {b : Nat} {rest : List Value} (hM : MOK ν 0) (hl : LkI (mN μ).cls idx ν) (hq : rmB R ν k rest = true) (hA : AOK μ ν L rest Y) (hd : decode (mC μ) pc = .ok (.invokespecial idx, 3)) (hc : Tn Γ ν [.ref b] Y (rt none Z)) (hk : (k.1 + mM ν, k.2 + mS ν) = k') (kk : G Γ μ R W k' (pc + 3) L (rest) Z) : G Γ μ R W k pc L (.ref b :: rest) Y := by
  subst hk
  exact G_callI hM hl (rmB_ok hq).1 (as := []) rfl rfl (rmB_ok hq).2 hA hd hc (by rintro _ _ ⟨rfl, rfl⟩; exact kk)
theorem K_U0r {ν : MTy} {idx : Nat} {b cb : Nat} {owner : String} {x : MethodName} {rest : List Value} {u : Value} (hM : MOK ν 0) (hl : LkU (mN μ).cls idx (cN cb) owner x ν) (hx : (parseMethodDescriptor x.desc).map (fun d => d.parameters.length) = some 0) (hb : xK Y b = cb) (hcb : Nat.blt cb 10 = true) (hq : rmB R ν k rest = true) (hA : AOK μ ν L rest Y) (hd : decode (mC μ) pc = .ok (.invokevirtual idx, 3)) (hc : Tn Γ ν [.ref b] Y (rt (some u) Z)) (hk : (k.1 + mM ν, k.2 + mS ν) = k') (kk : G Γ μ R W k' (pc + 3) L (u :: rest) Z) : G Γ μ R W k pc L (.ref b :: rest) Y := by
  subst hk
  exact G_callU hM hl hx (rmB_ok hq).1 hb (Nat.lt_of_lt_of_le (Nat.le_of_ble_eq_true hcb) (Nat.le_refl _)) (as := []) rfl rfl (rmB_ok hq).2 hA hd hc (by rintro _ _ ⟨rfl, rfl⟩; exact kk)
theorem K_U0v {ν : MTy} {idx : Nat} {b cb : Nat} {owner : String} {x : MethodName} {rest : List Value} (hM : MOK ν 0) (hl : LkU (mN μ).cls idx (cN cb) owner x ν) (hx : (parseMethodDescriptor x.desc).map (fun d => d.parameters.length) = some 0) (hb : xK Y b = cb) (hcb : Nat.blt cb 10 = true) (hq : rmB R ν k rest = true) (hA : AOK μ ν L rest Y) (hd : decode (mC μ) pc = .ok (.invokevirtual idx, 3)) (hc : Tn Γ ν [.ref b] Y (rt none Z)) (hk : (k.1 + mM ν, k.2 + mS ν) = k') (kk : G Γ μ R W k' (pc + 3) L (rest) Z) : G Γ μ R W k pc L (.ref b :: rest) Y := by
  subst hk
  exact G_callU hM hl hx (rmB_ok hq).1 hb (Nat.lt_of_lt_of_le (Nat.le_of_ble_eq_true hcb) (Nat.le_refl _)) (as := []) rfl rfl (rmB_ok hq).2 hA hd hc (by rintro _ _ ⟨rfl, rfl⟩; exact kk)
theorem K_V1 {ν : MTy} {idx : Nat} {b cb : Nat} {v1 : Value} {rest : List Value} {QV' : Option Value → HS → Prop} {QX' : String → HS → Prop} (hM : MOK ν 1) (hl : LkV (mN μ).cls idx ν) (hb : xK Y b = cb) (hcb : Nat.blt cb 10 = true) (hcc : cN cb = (mN ν).cls) (hq : rmB R ν k rest = true) (hA : AOK μ ν L rest Y) (hd : decode (mC μ) pc = .ok (.invokevirtual idx, 3)) (hc : Tt Γ ν [.ref b, v1] Y QV' QX') (hk : (k.1 + mM ν, k.2 + mS ν) = k') (kk : ∀ (v : Option Value) (Y' : HS), QV' v Y' → G Γ μ R W k' (pc + 3) L (v.toList ++ rest) Y') (kx : ∀ (E : String) (Y' : HS), QX' E Y' → GX Γ μ R W E k' pc L Y') : G Γ μ R W k pc L (v1 :: .ref b :: rest) Y := by
  subst hk
  exact G_callV hM hl (rmB_ok hq).1 hb (Nat.lt_of_lt_of_le (Nat.le_of_ble_eq_true hcb) (Nat.le_refl _)) hcc (as := [v1]) rfl rfl (rmB_ok hq).2 hA hd hc kk kx
theorem K_S1 {ν : MTy} {idx : Nat} {v1 : Value} {rest : List Value} {QV' : Option Value → HS → Prop} {QX' : String → HS → Prop} (hM : MOK ν 1) (hl : LkS (mN μ).cls idx ν) (hq : rmB R ν k rest = true) (hA : AOK μ ν L rest Y) (hd : decode (mC μ) pc = .ok (.invokestatic idx, 3)) (hc : Tt Γ ν [v1] Y QV' QX') (hk : (k.1 + mM ν, k.2 + mS ν) = k') (kk : ∀ (v : Option Value) (Y' : HS), QV' v Y' → G Γ μ R W k' (pc + 3) L (v.toList ++ rest) Y') (kx : ∀ (E : String) (Y' : HS), QX' E Y' → GX Γ μ R W E k' pc L Y') : G Γ μ R W k pc L (v1 :: rest) Y := by
  subst hk
  exact G_callS hM hl (rmB_ok hq).1 (as := [v1]) rfl rfl (rmB_ok hq).2 hA hd hc kk kx
theorem K_SW1 {ν : MTy} {idx : Nat} {v1 : Value} {rest : List Value} {QV' : Option Value → HS → Prop} {QX' : String → HS → Prop} (hM : MOW ν 1) (hl : LkS (mN μ).cls idx ν) (hq : rmB R ν k rest = true) (hA : AOK μ ν L rest Y) (hd : decode (mC μ) pc = .ok (.invokestatic idx, 3)) (hc : Tw Γ ν [v1] Y QV' QX') (hk : (k.1 + mM ν, k.2 + mS ν) = k') (kk : ∀ (v : Option Value) (Y' : HS), QV' v Y' → G Γ μ R W k' (pc + 3) L (v.toList ++ rest) Y') (kx : ∀ (E : String) (Y' : HS), QX' E Y' → GX Γ μ R W E k' pc L Y') : G Γ μ R W k pc L (v1 :: rest) Y := by
  subst hk
  exact G_callSW hM hl (rmB_ok hq).1 (as := [v1]) rfl rfl (rmB_ok hq).2 hA hd hc kk kx
theorem K_Vn1r {ν : MTy} {idx : Nat} {b cb : Nat} {v1 : Value} {rest : List Value} {u : Value} (hM : MOK ν 1) (hl : LkV (mN μ).cls idx ν) (hb : xK Y b = cb) (hcb : Nat.blt cb 10 = true) (hcc : cN cb = (mN ν).cls) (hq : rmB R ν k rest = true) (hA : AOK μ ν L rest Y) (hd : decode (mC μ) pc = .ok (.invokevirtual idx, 3)) (hc : Tn Γ ν [.ref b, v1] Y (rt (some u) Z)) (hk : (k.1 + mM ν, k.2 + mS ν) = k') (kk : G Γ μ R W k' (pc + 3) L (u :: rest) Z) : G Γ μ R W k pc L (v1 :: .ref b :: rest) Y := by
  subst hk
  exact G_callVn hM hl (rmB_ok hq).1 hb (Nat.lt_of_lt_of_le (Nat.le_of_ble_eq_true hcb) (Nat.le_refl _)) hcc (as := [v1]) rfl rfl (rmB_ok hq).2 hA hd hc (by rintro _ _ ⟨rfl, rfl⟩; exact kk)
theorem K_Vn1v {ν : MTy} {idx : Nat} {b cb : Nat} {v1 : Value} {rest : List Value} (hM : MOK ν 1) (hl : LkV (mN μ).cls idx ν) (hb : xK Y b = cb) (hcb : Nat.blt cb 10 = true) (hcc : cN cb = (mN ν).cls) (hq : rmB R ν k rest = true) (hA : AOK μ ν L rest Y) (hd : decode (mC μ) pc = .ok (.invokevirtual idx, 3)) (hc : Tn Γ ν [.ref b, v1] Y (rt none Z)) (hk : (k.1 + mM ν, k.2 + mS ν) = k') (kk : G Γ μ R W k' (pc + 3) L (rest) Z) : G Γ μ R W k pc L (v1 :: .ref b :: rest) Y := by
  subst hk
  exact G_callVn hM hl (rmB_ok hq).1 hb (Nat.lt_of_lt_of_le (Nat.le_of_ble_eq_true hcb) (Nat.le_refl _)) hcc (as := [v1]) rfl rfl (rmB_ok hq).2 hA hd hc (by rintro _ _ ⟨rfl, rfl⟩; exact kk)
theorem K_Sn1r {ν : MTy} {idx : Nat} {v1 : Value} {rest : List Value} {u : Value} (hM : MOK ν 1) (hl : LkS (mN μ).cls idx ν) (hq : rmB R ν k rest = true) (hA : AOK μ ν L rest Y) (hd : decode (mC μ) pc = .ok (.invokestatic idx, 3)) (hc : Tn Γ ν [v1] Y (rt (some u) Z)) (hk : (k.1 + mM ν, k.2 + mS ν) = k') (kk : G Γ μ R W k' (pc + 3) L (u :: rest) Z) : G Γ μ R W k pc L (v1 :: rest) Y := by
  subst hk
  exact G_callSn hM hl (rmB_ok hq).1 (as := [v1]) rfl rfl (rmB_ok hq).2 hA hd hc (by rintro _ _ ⟨rfl, rfl⟩; exact kk)
theorem K_Sn1v {ν : MTy} {idx : Nat} {v1 : Value} {rest : List Value} (hM : MOK ν 1) (hl : LkS (mN μ).cls idx ν) (hq : rmB R ν k rest = true) (hA : AOK μ ν L rest Y) (hd : decode (mC μ) pc = .ok (.invokestatic idx, 3)) (hc : Tn Γ ν [v1] Y (rt none Z)) (hk : (k.1 + mM ν, k.2 + mS ν) = k') (kk : G Γ μ R W k' (pc + 3) L (rest) Z) : G Γ μ R W k pc L (v1 :: rest) Y := by
  subst hk
  exact G_callSn hM hl (rmB_ok hq).1 (as := [v1]) rfl rfl (rmB_ok hq).2 hA hd hc (by rintro _ _ ⟨rfl, rfl⟩; exact kk)
theorem K_NS1r {ν : MTy} {idx : Nat} {host : String} {v1 : Value} {rest : List Value} {u : Value} (hM : MOK ν 1) (hl : LkNS (mN μ).cls idx host ν) (hq : rmB R ν k rest = true) (hA : AOK μ ν L rest Y) (hd : decode (mC μ) pc = .ok (.invokestatic idx, 3)) (hc : Tn Γ ν [v1] Y (rt (some u) Z)) (hk : (k.1 + mM ν, k.2 + mS ν) = k') (kk : G Γ μ R W k' (pc + 3) L (u :: rest) Z) : G Γ μ R W k pc L (v1 :: rest) Y := by
  subst hk
  exact G_callNS hM hl (rmB_ok hq).1 (as := [v1]) rfl rfl (rmB_ok hq).2 hA hd hc (by rintro _ _ ⟨rfl, rfl⟩; exact kk)
theorem K_NS1v {ν : MTy} {idx : Nat} {host : String} {v1 : Value} {rest : List Value} (hM : MOK ν 1) (hl : LkNS (mN μ).cls idx host ν) (hq : rmB R ν k rest = true) (hA : AOK μ ν L rest Y) (hd : decode (mC μ) pc = .ok (.invokestatic idx, 3)) (hc : Tn Γ ν [v1] Y (rt none Z)) (hk : (k.1 + mM ν, k.2 + mS ν) = k') (kk : G Γ μ R W k' (pc + 3) L (rest) Z) : G Γ μ R W k pc L (v1 :: rest) Y := by
  subst hk
  exact G_callNS hM hl (rmB_ok hq).1 (as := [v1]) rfl rfl (rmB_ok hq).2 hA hd hc (by rintro _ _ ⟨rfl, rfl⟩; exact kk)
theorem K_NI1r {ν : MTy} {idx : Nat} {b : Nat} {host : String} {v1 : Value} {rest : List Value} {u : Value} (hM : MOK ν 1) (hl : LkNI (mN μ).cls idx host ν) (hq : rmB R ν k rest = true) (hA : AOK μ ν L rest Y) (hd : decode (mC μ) pc = .ok (.invokespecial idx, 3)) (hc : Tn Γ ν [.ref b, v1] Y (rt (some u) Z)) (hk : (k.1 + mM ν, k.2 + mS ν) = k') (kk : G Γ μ R W k' (pc + 3) L (u :: rest) Z) : G Γ μ R W k pc L (v1 :: .ref b :: rest) Y := by
  subst hk
  exact G_callNI hM hl (rmB_ok hq).1 (as := [v1]) rfl rfl (rmB_ok hq).2 hA hd hc (by rintro _ _ ⟨rfl, rfl⟩; exact kk)
theorem K_NI1v {ν : MTy} {idx : Nat} {b : Nat} {host : String} {v1 : Value} {rest : List Value} (hM : MOK ν 1) (hl : LkNI (mN μ).cls idx host ν) (hq : rmB R ν k rest = true) (hA : AOK μ ν L rest Y) (hd : decode (mC μ) pc = .ok (.invokespecial idx, 3)) (hc : Tn Γ ν [.ref b, v1] Y (rt none Z)) (hk : (k.1 + mM ν, k.2 + mS ν) = k') (kk : G Γ μ R W k' (pc + 3) L (rest) Z) : G Γ μ R W k pc L (v1 :: .ref b :: rest) Y := by
  subst hk
  exact G_callNI hM hl (rmB_ok hq).1 (as := [v1]) rfl rfl (rmB_ok hq).2 hA hd hc (by rintro _ _ ⟨rfl, rfl⟩; exact kk)
theorem K_I1r {ν : MTy} {idx : Nat} {b : Nat} {v1 : Value} {rest : List Value} {u : Value} (hM : MOK ν 1) (hl : LkI (mN μ).cls idx ν) (hq : rmB R ν k rest = true) (hA : AOK μ ν L rest Y) (hd : decode (mC μ) pc = .ok (.invokespecial idx, 3)) (hc : Tn Γ ν [.ref b, v1] Y (rt (some u) Z)) (hk : (k.1 + mM ν, k.2 + mS ν) = k') (kk : G Γ μ R W k' (pc + 3) L (u :: rest) Z) : G Γ μ R W k pc L (v1 :: .ref b :: rest) Y := by
  subst hk
  exact G_callI hM hl (rmB_ok hq).1 (as := [v1]) rfl rfl (rmB_ok hq).2 hA hd hc (by rintro _ _ ⟨rfl, rfl⟩; exact kk)
theorem K_I1v {ν : MTy} {idx : Nat} {b : Nat} {v1 : Value} {rest : List Value} (hM : MOK ν 1) (hl : LkI (mN μ).cls idx ν) (hq : rmB R ν k rest = true) (hA : AOK μ ν L rest Y) (hd : decode (mC μ) pc = .ok (.invokespecial idx, 3)) (hc : Tn Γ ν [.ref b, v1] Y (rt none Z)) (hk : (k.1 + mM ν, k.2 + mS ν) = k') (kk : G Γ μ R W k' (pc + 3) L (rest) Z) : G Γ μ R W k pc L (v1 :: .ref b :: rest) Y := by
  subst hk
  exact G_callI hM hl (rmB_ok hq).1 (as := [v1]) rfl rfl (rmB_ok hq).2 hA hd hc (by rintro _ _ ⟨rfl, rfl⟩; exact kk)
theorem K_U1r {ν : MTy} {idx : Nat} {b cb : Nat} {owner : String} {x : MethodName} {v1 : Value} {rest : List Value} {u : Value} (hM : MOK ν 1) (hl : LkU (mN μ).cls idx (cN cb) owner x ν) (hx : (parseMethodDescriptor x.desc).map (fun d => d.parameters.length) = some 1) (hb : xK Y b = cb) (hcb : Nat.blt cb 10 = true) (hq : rmB R ν k rest = true) (hA : AOK μ ν L rest Y) (hd : decode (mC μ) pc = .ok (.invokevirtual idx, 3)) (hc : Tn Γ ν [.ref b, v1] Y (rt (some u) Z)) (hk : (k.1 + mM ν, k.2 + mS ν) = k') (kk : G Γ μ R W k' (pc + 3) L (u :: rest) Z) : G Γ μ R W k pc L (v1 :: .ref b :: rest) Y := by
  subst hk
  exact G_callU hM hl hx (rmB_ok hq).1 hb (Nat.lt_of_lt_of_le (Nat.le_of_ble_eq_true hcb) (Nat.le_refl _)) (as := [v1]) rfl rfl (rmB_ok hq).2 hA hd hc (by rintro _ _ ⟨rfl, rfl⟩; exact kk)
theorem K_U1v {ν : MTy} {idx : Nat} {b cb : Nat} {owner : String} {x : MethodName} {v1 : Value} {rest : List Value} (hM : MOK ν 1) (hl : LkU (mN μ).cls idx (cN cb) owner x ν) (hx : (parseMethodDescriptor x.desc).map (fun d => d.parameters.length) = some 1) (hb : xK Y b = cb) (hcb : Nat.blt cb 10 = true) (hq : rmB R ν k rest = true) (hA : AOK μ ν L rest Y) (hd : decode (mC μ) pc = .ok (.invokevirtual idx, 3)) (hc : Tn Γ ν [.ref b, v1] Y (rt none Z)) (hk : (k.1 + mM ν, k.2 + mS ν) = k') (kk : G Γ μ R W k' (pc + 3) L (rest) Z) : G Γ μ R W k pc L (v1 :: .ref b :: rest) Y := by
  subst hk
  exact G_callU hM hl hx (rmB_ok hq).1 hb (Nat.lt_of_lt_of_le (Nat.le_of_ble_eq_true hcb) (Nat.le_refl _)) (as := [v1]) rfl rfl (rmB_ok hq).2 hA hd hc (by rintro _ _ ⟨rfl, rfl⟩; exact kk)
theorem K_V2 {ν : MTy} {idx : Nat} {b cb : Nat} {v1 v2 : Value} {rest : List Value} {QV' : Option Value → HS → Prop} {QX' : String → HS → Prop} (hM : MOK ν 2) (hl : LkV (mN μ).cls idx ν) (hb : xK Y b = cb) (hcb : Nat.blt cb 10 = true) (hcc : cN cb = (mN ν).cls) (hq : rmB R ν k rest = true) (hA : AOK μ ν L rest Y) (hd : decode (mC μ) pc = .ok (.invokevirtual idx, 3)) (hc : Tt Γ ν [.ref b, v1, v2] Y QV' QX') (hk : (k.1 + mM ν, k.2 + mS ν) = k') (kk : ∀ (v : Option Value) (Y' : HS), QV' v Y' → G Γ μ R W k' (pc + 3) L (v.toList ++ rest) Y') (kx : ∀ (E : String) (Y' : HS), QX' E Y' → GX Γ μ R W E k' pc L Y') : G Γ μ R W k pc L (v2 :: v1 :: .ref b :: rest) Y := by
  subst hk
  exact G_callV hM hl (rmB_ok hq).1 hb (Nat.lt_of_lt_of_le (Nat.le_of_ble_eq_true hcb) (Nat.le_refl _)) hcc (as := [v1, v2]) rfl rfl (rmB_ok hq).2 hA hd hc kk kx
theorem K_S2 {ν : MTy} {idx : Nat} {v1 v2 : Value} {rest : List Value} {QV' : Option Value → HS → Prop} {QX' : String → HS → Prop} (hM : MOK ν 2) (hl : LkS (mN μ).cls idx ν) (hq : rmB R ν k rest = true) (hA : AOK μ ν L rest Y) (hd : decode (mC μ) pc = .ok (.invokestatic idx, 3)) (hc : Tt Γ ν [v1, v2] Y QV' QX') (hk : (k.1 + mM ν, k.2 + mS ν) = k') (kk : ∀ (v : Option Value) (Y' : HS), QV' v Y' → G Γ μ R W k' (pc + 3) L (v.toList ++ rest) Y') (kx : ∀ (E : String) (Y' : HS), QX' E Y' → GX Γ μ R W E k' pc L Y') : G Γ μ R W k pc L (v2 :: v1 :: rest) Y := by
  subst hk
  exact G_callS hM hl (rmB_ok hq).1 (as := [v1, v2]) rfl rfl (rmB_ok hq).2 hA hd hc kk kx
theorem K_SW2 {ν : MTy} {idx : Nat} {v1 v2 : Value} {rest : List Value} {QV' : Option Value → HS → Prop} {QX' : String → HS → Prop} (hM : MOW ν 2) (hl : LkS (mN μ).cls idx ν) (hq : rmB R ν k rest = true) (hA : AOK μ ν L rest Y) (hd : decode (mC μ) pc = .ok (.invokestatic idx, 3)) (hc : Tw Γ ν [v1, v2] Y QV' QX') (hk : (k.1 + mM ν, k.2 + mS ν) = k') (kk : ∀ (v : Option Value) (Y' : HS), QV' v Y' → G Γ μ R W k' (pc + 3) L (v.toList ++ rest) Y') (kx : ∀ (E : String) (Y' : HS), QX' E Y' → GX Γ μ R W E k' pc L Y') : G Γ μ R W k pc L (v2 :: v1 :: rest) Y := by
  subst hk
  exact G_callSW hM hl (rmB_ok hq).1 (as := [v1, v2]) rfl rfl (rmB_ok hq).2 hA hd hc kk kx
theorem K_Vn2r {ν : MTy} {idx : Nat} {b cb : Nat} {v1 v2 : Value} {rest : List Value} {u : Value} (hM : MOK ν 2) (hl : LkV (mN μ).cls idx ν) (hb : xK Y b = cb) (hcb : Nat.blt cb 10 = true) (hcc : cN cb = (mN ν).cls) (hq : rmB R ν k rest = true) (hA : AOK μ ν L rest Y) (hd : decode (mC μ) pc = .ok (.invokevirtual idx, 3)) (hc : Tn Γ ν [.ref b, v1, v2] Y (rt (some u) Z)) (hk : (k.1 + mM ν, k.2 + mS ν) = k') (kk : G Γ μ R W k' (pc + 3) L (u :: rest) Z) : G Γ μ R W k pc L (v2 :: v1 :: .ref b :: rest) Y := by
  subst hk
  exact G_callVn hM hl (rmB_ok hq).1 hb (Nat.lt_of_lt_of_le (Nat.le_of_ble_eq_true hcb) (Nat.le_refl _)) hcc (as := [v1, v2]) rfl rfl (rmB_ok hq).2 hA hd hc (by rintro _ _ ⟨rfl, rfl⟩; exact kk)
theorem K_Vn2v {ν : MTy} {idx : Nat} {b cb : Nat} {v1 v2 : Value} {rest : List Value} (hM : MOK ν 2) (hl : LkV (mN μ).cls idx ν) (hb : xK Y b = cb) (hcb : Nat.blt cb 10 = true) (hcc : cN cb = (mN ν).cls) (hq : rmB R ν k rest = true) (hA : AOK μ ν L rest Y) (hd : decode (mC μ) pc = .ok (.invokevirtual idx, 3)) (hc : Tn Γ ν [.ref b, v1, v2] Y (rt none Z)) (hk : (k.1 + mM ν, k.2 + mS ν) = k') (kk : G Γ μ R W k' (pc + 3) L (rest) Z) : G Γ μ R W k pc L (v2 :: v1 :: .ref b :: rest) Y := by
  subst hk
  exact G_callVn hM hl (rmB_ok hq).1 hb (Nat.lt_of_lt_of_le (Nat.le_of_ble_eq_true hcb) (Nat.le_refl _)) hcc (as := [v1, v2]) rfl rfl (rmB_ok hq).2 hA hd hc (by rintro _ _ ⟨rfl, rfl⟩; exact kk)
theorem K_Sn2r {ν : MTy} {idx : Nat} {v1 v2 : Value} {rest : List Value} {u : Value} (hM : MOK ν 2) (hl : LkS (mN μ).cls idx ν) (hq : rmB R ν k rest = true) (hA : AOK μ ν L rest Y) (hd : decode (mC μ) pc = .ok (.invokestatic idx, 3)) (hc : Tn Γ ν [v1, v2] Y (rt (some u) Z)) (hk : (k.1 + mM ν, k.2 + mS ν) = k') (kk : G Γ μ R W k' (pc + 3) L (u :: rest) Z) : G Γ μ R W k pc L (v2 :: v1 :: rest) Y := by
  subst hk
  exact G_callSn hM hl (rmB_ok hq).1 (as := [v1, v2]) rfl rfl (rmB_ok hq).2 hA hd hc (by rintro _ _ ⟨rfl, rfl⟩; exact kk)
theorem K_Sn2v {ν : MTy} {idx : Nat} {v1 v2 : Value} {rest : List Value} (hM : MOK ν 2) (hl : LkS (mN μ).cls idx ν) (hq : rmB R ν k rest = true) (hA : AOK μ ν L rest Y) (hd : decode (mC μ) pc = .ok (.invokestatic idx, 3)) (hc : Tn Γ ν [v1, v2] Y (rt none Z)) (hk : (k.1 + mM ν, k.2 + mS ν) = k') (kk : G Γ μ R W k' (pc + 3) L (rest) Z) : G Γ μ R W k pc L (v2 :: v1 :: rest) Y := by
  subst hk
  exact G_callSn hM hl (rmB_ok hq).1 (as := [v1, v2]) rfl rfl (rmB_ok hq).2 hA hd hc (by rintro _ _ ⟨rfl, rfl⟩; exact kk)
theorem K_NS2r {ν : MTy} {idx : Nat} {host : String} {v1 v2 : Value} {rest : List Value} {u : Value} (hM : MOK ν 2) (hl : LkNS (mN μ).cls idx host ν) (hq : rmB R ν k rest = true) (hA : AOK μ ν L rest Y) (hd : decode (mC μ) pc = .ok (.invokestatic idx, 3)) (hc : Tn Γ ν [v1, v2] Y (rt (some u) Z)) (hk : (k.1 + mM ν, k.2 + mS ν) = k') (kk : G Γ μ R W k' (pc + 3) L (u :: rest) Z) : G Γ μ R W k pc L (v2 :: v1 :: rest) Y := by
  subst hk
  exact G_callNS hM hl (rmB_ok hq).1 (as := [v1, v2]) rfl rfl (rmB_ok hq).2 hA hd hc (by rintro _ _ ⟨rfl, rfl⟩; exact kk)
theorem K_NS2v {ν : MTy} {idx : Nat} {host : String} {v1 v2 : Value} {rest : List Value} (hM : MOK ν 2) (hl : LkNS (mN μ).cls idx host ν) (hq : rmB R ν k rest = true) (hA : AOK μ ν L rest Y) (hd : decode (mC μ) pc = .ok (.invokestatic idx, 3)) (hc : Tn Γ ν [v1, v2] Y (rt none Z)) (hk : (k.1 + mM ν, k.2 + mS ν) = k') (kk : G Γ μ R W k' (pc + 3) L (rest) Z) : G Γ μ R W k pc L (v2 :: v1 :: rest) Y := by
  subst hk
  exact G_callNS hM hl (rmB_ok hq).1 (as := [v1, v2]) rfl rfl (rmB_ok hq).2 hA hd hc (by rintro _ _ ⟨rfl, rfl⟩; exact kk)
theorem K_NI2r {ν : MTy} {idx : Nat} {b : Nat} {host : String} {v1 v2 : Value} {rest : List Value} {u : Value} (hM : MOK ν 2) (hl : LkNI (mN μ).cls idx host ν) (hq : rmB R ν k rest = true) (hA : AOK μ ν L rest Y) (hd : decode (mC μ) pc = .ok (.invokespecial idx, 3)) (hc : Tn Γ ν [.ref b, v1, v2] Y (rt (some u) Z)) (hk : (k.1 + mM ν, k.2 + mS ν) = k') (kk : G Γ μ R W k' (pc + 3) L (u :: rest) Z) : G Γ μ R W k pc L (v2 :: v1 :: .ref b :: rest) Y := by
  subst hk
  exact G_callNI hM hl (rmB_ok hq).1 (as := [v1, v2]) rfl rfl (rmB_ok hq).2 hA hd hc (by rintro _ _ ⟨rfl, rfl⟩; exact kk)
theorem K_NI2v {ν : MTy} {idx : Nat} {b : Nat} {host : String} {v1 v2 : Value} {rest : List Value} (hM : MOK ν 2) (hl : LkNI (mN μ).cls idx host ν) (hq : rmB R ν k rest = true) (hA : AOK μ ν L rest Y) (hd : decode (mC μ) pc = .ok (.invokespecial idx, 3)) (hc : Tn Γ ν [.ref b, v1, v2] Y (rt none Z)) (hk : (k.1 + mM ν, k.2 + mS ν) = k') (kk : G Γ μ R W k' (pc + 3) L (rest) Z) : G Γ μ R W k pc L (v2 :: v1 :: .ref b :: rest) Y := by
  subst hk
  exact G_callNI hM hl (rmB_ok hq).1 (as := [v1, v2]) rfl rfl (rmB_ok hq).2 hA hd hc (by rintro _ _ ⟨rfl, rfl⟩; exact kk)
theorem K_I2r {ν : MTy} {idx : Nat} {b : Nat} {v1 v2 : Value} {rest : List Value} {u : Value} (hM : MOK ν 2) (hl : LkI (mN μ).cls idx ν) (hq : rmB R ν k rest = true) (hA : AOK μ ν L rest Y) (hd : decode (mC μ) pc = .ok (.invokespecial idx, 3)) (hc : Tn Γ ν [.ref b, v1, v2] Y (rt (some u) Z)) (hk : (k.1 + mM ν, k.2 + mS ν) = k') (kk : G Γ μ R W k' (pc + 3) L (u :: rest) Z) : G Γ μ R W k pc L (v2 :: v1 :: .ref b :: rest) Y := by
  subst hk
  exact G_callI hM hl (rmB_ok hq).1 (as := [v1, v2]) rfl rfl (rmB_ok hq).2 hA hd hc (by rintro _ _ ⟨rfl, rfl⟩; exact kk)
theorem K_I2v {ν : MTy} {idx : Nat} {b : Nat} {v1 v2 : Value} {rest : List Value} (hM : MOK ν 2) (hl : LkI (mN μ).cls idx ν) (hq : rmB R ν k rest = true) (hA : AOK μ ν L rest Y) (hd : decode (mC μ) pc = .ok (.invokespecial idx, 3)) (hc : Tn Γ ν [.ref b, v1, v2] Y (rt none Z)) (hk : (k.1 + mM ν, k.2 + mS ν) = k') (kk : G Γ μ R W k' (pc + 3) L (rest) Z) : G Γ μ R W k pc L (v2 :: v1 :: .ref b :: rest) Y := by
  subst hk
  exact G_callI hM hl (rmB_ok hq).1 (as := [v1, v2]) rfl rfl (rmB_ok hq).2 hA hd hc (by rintro _ _ ⟨rfl, rfl⟩; exact kk)
theorem K_U2r {ν : MTy} {idx : Nat} {b cb : Nat} {owner : String} {x : MethodName} {v1 v2 : Value} {rest : List Value} {u : Value} (hM : MOK ν 2) (hl : LkU (mN μ).cls idx (cN cb) owner x ν) (hx : (parseMethodDescriptor x.desc).map (fun d => d.parameters.length) = some 2) (hb : xK Y b = cb) (hcb : Nat.blt cb 10 = true) (hq : rmB R ν k rest = true) (hA : AOK μ ν L rest Y) (hd : decode (mC μ) pc = .ok (.invokevirtual idx, 3)) (hc : Tn Γ ν [.ref b, v1, v2] Y (rt (some u) Z)) (hk : (k.1 + mM ν, k.2 + mS ν) = k') (kk : G Γ μ R W k' (pc + 3) L (u :: rest) Z) : G Γ μ R W k pc L (v2 :: v1 :: .ref b :: rest) Y := by
  subst hk
  exact G_callU hM hl hx (rmB_ok hq).1 hb (Nat.lt_of_lt_of_le (Nat.le_of_ble_eq_true hcb) (Nat.le_refl _)) (as := [v1, v2]) rfl rfl (rmB_ok hq).2 hA hd hc (by rintro _ _ ⟨rfl, rfl⟩; exact kk)
theorem K_U2v {ν : MTy} {idx : Nat} {b cb : Nat} {owner : String} {x : MethodName} {v1 v2 : Value} {rest : List Value} (hM : MOK ν 2) (hl : LkU (mN μ).cls idx (cN cb) owner x ν) (hx : (parseMethodDescriptor x.desc).map (fun d => d.parameters.length) = some 2) (hb : xK Y b = cb) (hcb : Nat.blt cb 10 = true) (hq : rmB R ν k rest = true) (hA : AOK μ ν L rest Y) (hd : decode (mC μ) pc = .ok (.invokevirtual idx, 3)) (hc : Tn Γ ν [.ref b, v1, v2] Y (rt none Z)) (hk : (k.1 + mM ν, k.2 + mS ν) = k') (kk : G Γ μ R W k' (pc + 3) L (rest) Z) : G Γ μ R W k pc L (v2 :: v1 :: .ref b :: rest) Y := by
  subst hk
  exact G_callU hM hl hx (rmB_ok hq).1 hb (Nat.lt_of_lt_of_le (Nat.le_of_ble_eq_true hcb) (Nat.le_refl _)) (as := [v1, v2]) rfl rfl (rmB_ok hq).2 hA hd hc (by rintro _ _ ⟨rfl, rfl⟩; exact kk)
theorem K_V3 {ν : MTy} {idx : Nat} {b cb : Nat} {v1 v2 v3 : Value} {rest : List Value} {QV' : Option Value → HS → Prop} {QX' : String → HS → Prop} (hM : MOK ν 3) (hl : LkV (mN μ).cls idx ν) (hb : xK Y b = cb) (hcb : Nat.blt cb 10 = true) (hcc : cN cb = (mN ν).cls) (hq : rmB R ν k rest = true) (hA : AOK μ ν L rest Y) (hd : decode (mC μ) pc = .ok (.invokevirtual idx, 3)) (hc : Tt Γ ν [.ref b, v1, v2, v3] Y QV' QX') (hk : (k.1 + mM ν, k.2 + mS ν) = k') (kk : ∀ (v : Option Value) (Y' : HS), QV' v Y' → G Γ μ R W k' (pc + 3) L (v.toList ++ rest) Y') (kx : ∀ (E : String) (Y' : HS), QX' E Y' → GX Γ μ R W E k' pc L Y') : G Γ μ R W k pc L (v3 :: v2 :: v1 :: .ref b :: rest) Y := by
  subst hk
  exact G_callV hM hl (rmB_ok hq).1 hb (Nat.lt_of_lt_of_le (Nat.le_of_ble_eq_true hcb) (Nat.le_refl _)) hcc (as := [v1, v2, v3]) rfl rfl (rmB_ok hq).2 hA hd hc kk kx
theorem K_S3 {ν : MTy} {idx : Nat} {v1 v2 v3 : Value} {rest : List Value} {QV' : Option Value → HS → Prop} {QX' : String → HS → Prop} (hM : MOK ν 3) (hl : LkS (mN μ).cls idx ν) (hq : rmB R ν k rest = true) (hA : AOK μ ν L rest Y) (hd : decode (mC μ) pc = .ok (.invokestatic idx, 3)) (hc : Tt Γ ν [v1, v2, v3] Y QV' QX') (hk : (k.1 + mM ν, k.2 + mS ν) = k') (kk : ∀ (v : Option Value) (Y' : HS), QV' v Y' → G Γ μ R W k' (pc + 3) L (v.toList ++ rest) Y') (kx : ∀ (E : String) (Y' : HS), QX' E Y' → GX Γ μ R W E k' pc L Y') : G Γ μ R W k pc L (v3 :: v2 :: v1 :: rest) Y := by
  subst hk
  exact G_callS hM hl (rmB_ok hq).1 (as := [v1, v2, v3]) rfl rfl (rmB_ok hq).2 hA hd hc kk kx
theorem K_SW3 {ν : MTy} {idx : Nat} {v1 v2 v3 : Value} {rest : List Value} {QV' : Option Value → HS → Prop} {QX' : String → HS → Prop} (hM : MOW ν 3) (hl : LkS (mN μ).cls idx ν) (hq : rmB R ν k rest = true) (hA : AOK μ ν L rest Y) (hd : decode (mC μ) pc = .ok (.invokestatic idx, 3)) (hc : Tw Γ ν [v1, v2, v3] Y QV' QX') (hk : (k.1 + mM ν, k.2 + mS ν) = k') (kk : ∀ (v : Option Value) (Y' : HS), QV' v Y' → G Γ μ R W k' (pc + 3) L (v.toList ++ rest) Y') (kx : ∀ (E : String) (Y' : HS), QX' E Y' → GX Γ μ R W E k' pc L Y') : G Γ μ R W k pc L (v3 :: v2 :: v1 :: rest) Y := by
  subst hk
  exact G_callSW hM hl (rmB_ok hq).1 (as := [v1, v2, v3]) rfl rfl (rmB_ok hq).2 hA hd hc kk kx
theorem K_Vn3r {ν : MTy} {idx : Nat} {b cb : Nat} {v1 v2 v3 : Value} {rest : List Value} {u : Value} (hM : MOK ν 3) (hl : LkV (mN μ).cls idx ν) (hb : xK Y b = cb) (hcb : Nat.blt cb 10 = true) (hcc : cN cb = (mN ν).cls) (hq : rmB R ν k rest = true) (hA : AOK μ ν L rest Y) (hd : decode (mC μ) pc = .ok (.invokevirtual idx, 3)) (hc : Tn Γ ν [.ref b, v1, v2, v3] Y (rt (some u) Z)) (hk : (k.1 + mM ν, k.2 + mS ν) = k') (kk : G Γ μ R W k' (pc + 3) L (u :: rest) Z) : G Γ μ R W k pc L (v3 :: v2 :: v1 :: .ref b :: rest) Y := by
  subst hk
  exact G_callVn hM hl (rmB_ok hq).1 hb (Nat.lt_of_lt_of_le (Nat.le_of_ble_eq_true hcb) (Nat.le_refl _)) hcc (as := [v1, v2, v3]) rfl rfl (rmB_ok hq).2 hA hd hc (by rintro _ _ ⟨rfl, rfl⟩; exact kk)
theorem K_Vn3v {ν : MTy} {idx : Nat} {b cb : Nat} {v1 v2 v3 : Value} {rest : List Value} (hM : MOK ν 3) (hl : LkV (mN μ).cls idx ν) (hb : xK Y b = cb) (hcb : Nat.blt cb 10 = true) (hcc : cN cb = (mN ν).cls) (hq : rmB R ν k rest = true) (hA : AOK μ ν L rest Y) (hd : decode (mC μ) pc = .ok (.invokevirtual idx, 3)) (hc : Tn Γ ν [.ref b, v1, v2, v3] Y (rt none Z)) (hk : (k.1 + mM ν, k.2 + mS ν) = k') (kk : G Γ μ R W k' (pc + 3) L (rest) Z) : G Γ μ R W k pc L (v3 :: v2 :: v1 :: .ref b :: rest) Y := by
  subst hk
  exact G_callVn hM hl (rmB_ok hq).1 hb (Nat.lt_of_lt_of_le (Nat.le_of_ble_eq_true hcb) (Nat.le_refl _)) hcc (as := [v1, v2, v3]) rfl rfl (rmB_ok hq).2 hA hd hc (by rintro _ _ ⟨rfl, rfl⟩; exact kk)
theorem K_Sn3r {ν : MTy} {idx : Nat} {v1 v2 v3 : Value} {rest : List Value} {u : Value} (hM : MOK ν 3) (hl : LkS (mN μ).cls idx ν) (hq : rmB R ν k rest = true) (hA : AOK μ ν L rest Y) (hd : decode (mC μ) pc = .ok (.invokestatic idx, 3)) (hc : Tn Γ ν [v1, v2, v3] Y (rt (some u) Z)) (hk : (k.1 + mM ν, k.2 + mS ν) = k') (kk : G Γ μ R W k' (pc + 3) L (u :: rest) Z) : G Γ μ R W k pc L (v3 :: v2 :: v1 :: rest) Y := by
  subst hk
  exact G_callSn hM hl (rmB_ok hq).1 (as := [v1, v2, v3]) rfl rfl (rmB_ok hq).2 hA hd hc (by rintro _ _ ⟨rfl, rfl⟩; exact kk)
theorem K_Sn3v {ν : MTy} {idx : Nat} {v1 v2 v3 : Value} {rest : List Value} (hM : MOK ν 3) (hl : LkS (mN μ).cls idx ν) (hq : rmB R ν k rest = true) (hA : AOK μ ν L rest Y) (hd : decode (mC μ) pc = .ok (.invokestatic idx, 3)) (hc : Tn Γ ν [v1, v2, v3] Y (rt none Z)) (hk : (k.1 + mM ν, k.2 + mS ν) = k') (kk : G Γ μ R W k' (pc + 3) L (rest) Z) : G Γ μ R W k pc L (v3 :: v2 :: v1 :: rest) Y := by
  subst hk
  exact G_callSn hM hl (rmB_ok hq).1 (as := [v1, v2, v3]) rfl rfl (rmB_ok hq).2 hA hd hc (by rintro _ _ ⟨rfl, rfl⟩; exact kk)
theorem K_NS3r {ν : MTy} {idx : Nat} {host : String} {v1 v2 v3 : Value} {rest : List Value} {u : Value} (hM : MOK ν 3) (hl : LkNS (mN μ).cls idx host ν) (hq : rmB R ν k rest = true) (hA : AOK μ ν L rest Y) (hd : decode (mC μ) pc = .ok (.invokestatic idx, 3)) (hc : Tn Γ ν [v1, v2, v3] Y (rt (some u) Z)) (hk : (k.1 + mM ν, k.2 + mS ν) = k') (kk : G Γ μ R W k' (pc + 3) L (u :: rest) Z) : G Γ μ R W k pc L (v3 :: v2 :: v1 :: rest) Y := by
  subst hk
  exact G_callNS hM hl (rmB_ok hq).1 (as := [v1, v2, v3]) rfl rfl (rmB_ok hq).2 hA hd hc (by rintro _ _ ⟨rfl, rfl⟩; exact kk)
theorem K_NS3v {ν : MTy} {idx : Nat} {host : String} {v1 v2 v3 : Value} {rest : List Value} (hM : MOK ν 3) (hl : LkNS (mN μ).cls idx host ν) (hq : rmB R ν k rest = true) (hA : AOK μ ν L rest Y) (hd : decode (mC μ) pc = .ok (.invokestatic idx, 3)) (hc : Tn Γ ν [v1, v2, v3] Y (rt none Z)) (hk : (k.1 + mM ν, k.2 + mS ν) = k') (kk : G Γ μ R W k' (pc + 3) L (rest) Z) : G Γ μ R W k pc L (v3 :: v2 :: v1 :: rest) Y := by
  subst hk
  exact G_callNS hM hl (rmB_ok hq).1 (as := [v1, v2, v3]) rfl rfl (rmB_ok hq).2 hA hd hc (by rintro _ _ ⟨rfl, rfl⟩; exact kk)
theorem K_NI3r {ν : MTy} {idx : Nat} {b : Nat} {host : String} {v1 v2 v3 : Value} {rest : List Value} {u : Value} (hM : MOK ν 3) (hl : LkNI (mN μ).cls idx host ν) (hq : rmB R ν k rest = true) (hA : AOK μ ν L rest Y) (hd : decode (mC μ) pc = .ok (.invokespecial idx, 3)) (hc : Tn Γ ν [.ref b, v1, v2, v3] Y (rt (some u) Z)) (hk : (k.1 + mM ν, k.2 + mS ν) = k') (kk : G Γ μ R W k' (pc + 3) L (u :: rest) Z) : G Γ μ R W k pc L (v3 :: v2 :: v1 :: .ref b :: rest) Y := by
  subst hk
  exact G_callNI hM hl (rmB_ok hq).1 (as := [v1, v2, v3]) rfl rfl (rmB_ok hq).2 hA hd hc (by rintro _ _ ⟨rfl, rfl⟩; exact kk)
theorem K_NI3v {ν : MTy} {idx : Nat} {b : Nat} {host : String} {v1 v2 v3 : Value} {rest : List Value} (hM : MOK ν 3) (hl : LkNI (mN μ).cls idx host ν) (hq : rmB R ν k rest = true) (hA : AOK μ ν L rest Y) (hd : decode (mC μ) pc = .ok (.invokespecial idx, 3)) (hc : Tn Γ ν [.ref b, v1, v2, v3] Y (rt none Z)) (hk : (k.1 + mM ν, k.2 + mS ν) = k') (kk : G Γ μ R W k' (pc + 3) L (rest) Z) : G Γ μ R W k pc L (v3 :: v2 :: v1 :: .ref b :: rest) Y := by
  subst hk
  exact G_callNI hM hl (rmB_ok hq).1 (as := [v1, v2, v3]) rfl rfl (rmB_ok hq).2 hA hd hc (by rintro _ _ ⟨rfl, rfl⟩; exact kk)
theorem K_I3r {ν : MTy} {idx : Nat} {b : Nat} {v1 v2 v3 : Value} {rest : List Value} {u : Value} (hM : MOK ν 3) (hl : LkI (mN μ).cls idx ν) (hq : rmB R ν k rest = true) (hA : AOK μ ν L rest Y) (hd : decode (mC μ) pc = .ok (.invokespecial idx, 3)) (hc : Tn Γ ν [.ref b, v1, v2, v3] Y (rt (some u) Z)) (hk : (k.1 + mM ν, k.2 + mS ν) = k') (kk : G Γ μ R W k' (pc + 3) L (u :: rest) Z) : G Γ μ R W k pc L (v3 :: v2 :: v1 :: .ref b :: rest) Y := by
  subst hk
  exact G_callI hM hl (rmB_ok hq).1 (as := [v1, v2, v3]) rfl rfl (rmB_ok hq).2 hA hd hc (by rintro _ _ ⟨rfl, rfl⟩; exact kk)
theorem K_I3v {ν : MTy} {idx : Nat} {b : Nat} {v1 v2 v3 : Value} {rest : List Value} (hM : MOK ν 3) (hl : LkI (mN μ).cls idx ν) (hq : rmB R ν k rest = true) (hA : AOK μ ν L rest Y) (hd : decode (mC μ) pc = .ok (.invokespecial idx, 3)) (hc : Tn Γ ν [.ref b, v1, v2, v3] Y (rt none Z)) (hk : (k.1 + mM ν, k.2 + mS ν) = k') (kk : G Γ μ R W k' (pc + 3) L (rest) Z) : G Γ μ R W k pc L (v3 :: v2 :: v1 :: .ref b :: rest) Y := by
  subst hk
  exact G_callI hM hl (rmB_ok hq).1 (as := [v1, v2, v3]) rfl rfl (rmB_ok hq).2 hA hd hc (by rintro _ _ ⟨rfl, rfl⟩; exact kk)
theorem K_U3r {ν : MTy} {idx : Nat} {b cb : Nat} {owner : String} {x : MethodName} {v1 v2 v3 : Value} {rest : List Value} {u : Value} (hM : MOK ν 3) (hl : LkU (mN μ).cls idx (cN cb) owner x ν) (hx : (parseMethodDescriptor x.desc).map (fun d => d.parameters.length) = some 3) (hb : xK Y b = cb) (hcb : Nat.blt cb 10 = true) (hq : rmB R ν k rest = true) (hA : AOK μ ν L rest Y) (hd : decode (mC μ) pc = .ok (.invokevirtual idx, 3)) (hc : Tn Γ ν [.ref b, v1, v2, v3] Y (rt (some u) Z)) (hk : (k.1 + mM ν, k.2 + mS ν) = k') (kk : G Γ μ R W k' (pc + 3) L (u :: rest) Z) : G Γ μ R W k pc L (v3 :: v2 :: v1 :: .ref b :: rest) Y := by
  subst hk
  exact G_callU hM hl hx (rmB_ok hq).1 hb (Nat.lt_of_lt_of_le (Nat.le_of_ble_eq_true hcb) (Nat.le_refl _)) (as := [v1, v2, v3]) rfl rfl (rmB_ok hq).2 hA hd hc (by rintro _ _ ⟨rfl, rfl⟩; exact kk)
theorem K_U3v {ν : MTy} {idx : Nat} {b cb : Nat} {owner : String} {x : MethodName} {v1 v2 v3 : Value} {rest : List Value} (hM : MOK ν 3) (hl : LkU (mN μ).cls idx (cN cb) owner x ν) (hx : (parseMethodDescriptor x.desc).map (fun d => d.parameters.length) = some 3) (hb : xK Y b = cb) (hcb : Nat.blt cb 10 = true) (hq : rmB R ν k rest = true) (hA : AOK μ ν L rest Y) (hd : decode (mC μ) pc = .ok (.invokevirtual idx, 3)) (hc : Tn Γ ν [.ref b, v1, v2, v3] Y (rt none Z)) (hk : (k.1 + mM ν, k.2 + mS ν) = k') (kk : G Γ μ R W k' (pc + 3) L (rest) Z) : G Γ μ R W k pc L (v3 :: v2 :: v1 :: .ref b :: rest) Y := by
  subst hk
  exact G_callU hM hl hx (rmB_ok hq).1 hb (Nat.lt_of_lt_of_le (Nat.le_of_ble_eq_true hcb) (Nat.le_refl _)) (as := [v1, v2, v3]) rfl rfl (rmB_ok hq).2 hA hd hc (by rintro _ _ ⟨rfl, rfl⟩; exact kk)
theorem K_V4 {ν : MTy} {idx : Nat} {b cb : Nat} {v1 v2 v3 v4 : Value} {rest : List Value} {QV' : Option Value → HS → Prop} {QX' : String → HS → Prop} (hM : MOK ν 4) (hl : LkV (mN μ).cls idx ν) (hb : xK Y b = cb) (hcb : Nat.blt cb 10 = true) (hcc : cN cb = (mN ν).cls) (hq : rmB R ν k rest = true) (hA : AOK μ ν L rest Y) (hd : decode (mC μ) pc = .ok (.invokevirtual idx, 3)) (hc : Tt Γ ν [.ref b, v1, v2, v3, v4] Y QV' QX') (hk : (k.1 + mM ν, k.2 + mS ν) = k') (kk : ∀ (v : Option Value) (Y' : HS), QV' v Y' → G Γ μ R W k' (pc + 3) L (v.toList ++ rest) Y') (kx : ∀ (E : String) (Y' : HS), QX' E Y' → GX Γ μ R W E k' pc L Y') : G Γ μ R W k pc L (v4 :: v3 :: v2 :: v1 :: .ref b :: rest) Y := by
  subst hk
  exact G_callV hM hl (rmB_ok hq).1 hb (Nat.lt_of_lt_of_le (Nat.le_of_ble_eq_true hcb) (Nat.le_refl _)) hcc (as := [v1, v2, v3, v4]) rfl rfl (rmB_ok hq).2 hA hd hc kk kx
theorem K_S4 {ν : MTy} {idx : Nat} {v1 v2 v3 v4 : Value} {rest : List Value} {QV' : Option Value → HS → Prop} {QX' : String → HS → Prop} (hM : MOK ν 4) (hl : LkS (mN μ).cls idx ν) (hq : rmB R ν k rest = true) (hA : AOK μ ν L rest Y) (hd : decode (mC μ) pc = .ok (.invokestatic idx, 3)) (hc : Tt Γ ν [v1, v2, v3, v4] Y QV' QX') (hk : (k.1 + mM ν, k.2 + mS ν) = k') (kk : ∀ (v : Option Value) (Y' : HS), QV' v Y' → G Γ μ R W k' (pc + 3) L (v.toList ++ rest) Y') (kx : ∀ (E : String) (Y' : HS), QX' E Y' → GX Γ μ R W E k' pc L Y') : G Γ μ R W k pc L (v4 :: v3 :: v2 :: v1 :: rest) Y := by
  subst hk
  exact G_callS hM hl (rmB_ok hq).1 (as := [v1, v2, v3, v4]) rfl rfl (rmB_ok hq).2 hA hd hc kk kx
theorem K_SW4 {ν : MTy} {idx : Nat} {v1 v2 v3 v4 : Value} {rest : List Value} {QV' : Option Value → HS → Prop} {QX' : String → HS → Prop} (hM : MOW ν 4) (hl : LkS (mN μ).cls idx ν) (hq : rmB R ν k rest = true) (hA : AOK μ ν L rest Y) (hd : decode (mC μ) pc = .ok (.invokestatic idx, 3)) (hc : Tw Γ ν [v1, v2, v3, v4] Y QV' QX') (hk : (k.1 + mM ν, k.2 + mS ν) = k') (kk : ∀ (v : Option Value) (Y' : HS), QV' v Y' → G Γ μ R W k' (pc + 3) L (v.toList ++ rest) Y') (kx : ∀ (E : String) (Y' : HS), QX' E Y' → GX Γ μ R W E k' pc L Y') : G Γ μ R W k pc L (v4 :: v3 :: v2 :: v1 :: rest) Y := by
  subst hk
  exact G_callSW hM hl (rmB_ok hq).1 (as := [v1, v2, v3, v4]) rfl rfl (rmB_ok hq).2 hA hd hc kk kx
theorem K_Vn4r {ν : MTy} {idx : Nat} {b cb : Nat} {v1 v2 v3 v4 : Value} {rest : List Value} {u : Value} (hM : MOK ν 4) (hl : LkV (mN μ).cls idx ν) (hb : xK Y b = cb) (hcb : Nat.blt cb 10 = true) (hcc : cN cb = (mN ν).cls) (hq : rmB R ν k rest = true) (hA : AOK μ ν L rest Y) (hd : decode (mC μ) pc = .ok (.invokevirtual idx, 3)) (hc : Tn Γ ν [.ref b, v1, v2, v3, v4] Y (rt (some u) Z)) (hk : (k.1 + mM ν, k.2 + mS ν) = k') (kk : G Γ μ R W k' (pc + 3) L (u :: rest) Z) : G Γ μ R W k pc L (v4 :: v3 :: v2 :: v1 :: .ref b :: rest) Y := by
  subst hk
  exact G_callVn hM hl (rmB_ok hq).1 hb (Nat.lt_of_lt_of_le (Nat.le_of_ble_eq_true hcb) (Nat.le_refl _)) hcc (as := [v1, v2, v3, v4]) rfl rfl (rmB_ok hq).2 hA hd hc (by rintro _ _ ⟨rfl, rfl⟩; exact kk)
theorem K_Vn4v {ν : MTy} {idx : Nat} {b cb : Nat} {v1 v2 v3 v4 : Value} {rest : List Value} (hM : MOK ν 4) (hl : LkV (mN μ).cls idx ν) (hb : xK Y b = cb) (hcb : Nat.blt cb 10 = true) (hcc : cN cb = (mN ν).cls) (hq : rmB R ν k rest = true) (hA : AOK μ ν L rest Y) (hd : decode (mC μ) pc = .ok (.invokevirtual idx, 3)) (hc : Tn Γ ν [.ref b, v1, v2, v3, v4] Y (rt none Z)) (hk : (k.1 + mM ν, k.2 + mS ν) = k') (kk : G Γ μ R W k' (pc + 3) L (rest) Z) : G Γ μ R W k pc L (v4 :: v3 :: v2 :: v1 :: .ref b :: rest) Y := by
  subst hk
  exact G_callVn hM hl (rmB_ok hq).1 hb (Nat.lt_of_lt_of_le (Nat.le_of_ble_eq_true hcb) (Nat.le_refl _)) hcc (as := [v1, v2, v3, v4]) rfl rfl (rmB_ok hq).2 hA hd hc (by rintro _ _ ⟨rfl, rfl⟩; exact kk)
theorem K_Sn4r {ν : MTy} {idx : Nat} {v1 v2 v3 v4 : Value} {rest : List Value} {u : Value} (hM : MOK ν 4) (hl : LkS (mN μ).cls idx ν) (hq : rmB R ν k rest = true) (hA : AOK μ ν L rest Y) (hd : decode (mC μ) pc = .ok (.invokestatic idx, 3)) (hc : Tn Γ ν [v1, v2, v3, v4] Y (rt (some u) Z)) (hk : (k.1 + mM ν, k.2 + mS ν) = k') (kk : G Γ μ R W k' (pc + 3) L (u :: rest) Z) : G Γ μ R W k pc L (v4 :: v3 :: v2 :: v1 :: rest) Y := by
  subst hk
  exact G_callSn hM hl (rmB_ok hq).1 (as := [v1, v2, v3, v4]) rfl rfl (rmB_ok hq).2 hA hd hc (by rintro _ _ ⟨rfl, rfl⟩; exact kk)
theorem K_Sn4v {ν : MTy} {idx : Nat} {v1 v2 v3 v4 : Value} {rest : List Value} (hM : MOK ν 4) (hl : LkS (mN μ).cls idx ν) (hq : rmB R ν k rest = true) (hA : AOK μ ν L rest Y) (hd : decode (mC μ) pc = .ok (.invokestatic idx, 3)) (hc : Tn Γ ν [v1, v2, v3, v4] Y (rt none Z)) (hk : (k.1 + mM ν, k.2 + mS ν) = k') (kk : G Γ μ R W k' (pc + 3) L (rest) Z) : G Γ μ R W k pc L (v4 :: v3 :: v2 :: v1 :: rest) Y := by
  subst hk
  exact G_callSn hM hl (rmB_ok hq).1 (as := [v1, v2, v3, v4]) rfl rfl (rmB_ok hq).2 hA hd hc (by rintro _ _ ⟨rfl, rfl⟩; exact kk)
theorem K_NS4r {ν : MTy} {idx : Nat} {host : String} {v1 v2 v3 v4 : Value} {rest : List Value} {u : Value} (hM : MOK ν 4) (hl : LkNS (mN μ).cls idx host ν) (hq : rmB R ν k rest = true) (hA : AOK μ ν L rest Y) (hd : decode (mC μ) pc = .ok (.invokestatic idx, 3)) (hc : Tn Γ ν [v1, v2, v3, v4] Y (rt (some u) Z)) (hk : (k.1 + mM ν, k.2 + mS ν) = k') (kk : G Γ μ R W k' (pc + 3) L (u :: rest) Z) : G Γ μ R W k pc L (v4 :: v3 :: v2 :: v1 :: rest) Y := by
  subst hk
  exact G_callNS hM hl (rmB_ok hq).1 (as := [v1, v2, v3, v4]) rfl rfl (rmB_ok hq).2 hA hd hc (by rintro _ _ ⟨rfl, rfl⟩; exact kk)
theorem K_NS4v {ν : MTy} {idx : Nat} {host : String} {v1 v2 v3 v4 : Value} {rest : List Value} (hM : MOK ν 4) (hl : LkNS (mN μ).cls idx host ν) (hq : rmB R ν k rest = true) (hA : AOK μ ν L rest Y) (hd : decode (mC μ) pc = .ok (.invokestatic idx, 3)) (hc : Tn Γ ν [v1, v2, v3, v4] Y (rt none Z)) (hk : (k.1 + mM ν, k.2 + mS ν) = k') (kk : G Γ μ R W k' (pc + 3) L (rest) Z) : G Γ μ R W k pc L (v4 :: v3 :: v2 :: v1 :: rest) Y := by
  subst hk
  exact G_callNS hM hl (rmB_ok hq).1 (as := [v1, v2, v3, v4]) rfl rfl (rmB_ok hq).2 hA hd hc (by rintro _ _ ⟨rfl, rfl⟩; exact kk)
theorem K_NI4r {ν : MTy} {idx : Nat} {b : Nat} {host : String} {v1 v2 v3 v4 : Value} {rest : List Value} {u : Value} (hM : MOK ν 4) (hl : LkNI (mN μ).cls idx host ν) (hq : rmB R ν k rest = true) (hA : AOK μ ν L rest Y) (hd : decode (mC μ) pc = .ok (.invokespecial idx, 3)) (hc : Tn Γ ν [.ref b, v1, v2, v3, v4] Y (rt (some u) Z)) (hk : (k.1 + mM ν, k.2 + mS ν) = k') (kk : G Γ μ R W k' (pc + 3) L (u :: rest) Z) : G Γ μ R W k pc L (v4 :: v3 :: v2 :: v1 :: .ref b :: rest) Y := by
  subst hk
  exact G_callNI hM hl (rmB_ok hq).1 (as := [v1, v2, v3, v4]) rfl rfl (rmB_ok hq).2 hA hd hc (by rintro _ _ ⟨rfl, rfl⟩; exact kk)
theorem K_NI4v {ν : MTy} {idx : Nat} {b : Nat} {host : String} {v1 v2 v3 v4 : Value} {rest : List Value} (hM : MOK ν 4) (hl : LkNI (mN μ).cls idx host ν) (hq : rmB R ν k rest = true) (hA : AOK μ ν L rest Y) (hd : decode (mC μ) pc = .ok (.invokespecial idx, 3)) (hc : Tn Γ ν [.ref b, v1, v2, v3, v4] Y (rt none Z)) (hk : (k.1 + mM ν, k.2 + mS ν) = k') (kk : G Γ μ R W k' (pc + 3) L (rest) Z) : G Γ μ R W k pc L (v4 :: v3 :: v2 :: v1 :: .ref b :: rest) Y := by
  subst hk
  exact G_callNI hM hl (rmB_ok hq).1 (as := [v1, v2, v3, v4]) rfl rfl (rmB_ok hq).2 hA hd hc (by rintro _ _ ⟨rfl, rfl⟩; exact kk)
theorem K_I4r {ν : MTy} {idx : Nat} {b : Nat} {v1 v2 v3 v4 : Value} {rest : List Value} {u : Value} (hM : MOK ν 4) (hl : LkI (mN μ).cls idx ν) (hq : rmB R ν k rest = true) (hA : AOK μ ν L rest Y) (hd : decode (mC μ) pc = .ok (.invokespecial idx, 3)) (hc : Tn Γ ν [.ref b, v1, v2, v3, v4] Y (rt (some u) Z)) (hk : (k.1 + mM ν, k.2 + mS ν) = k') (kk : G Γ μ R W k' (pc + 3) L (u :: rest) Z) : G Γ μ R W k pc L (v4 :: v3 :: v2 :: v1 :: .ref b :: rest) Y := by
  subst hk
  exact G_callI hM hl (rmB_ok hq).1 (as := [v1, v2, v3, v4]) rfl rfl (rmB_ok hq).2 hA hd hc (by rintro _ _ ⟨rfl, rfl⟩; exact kk)
theorem K_I4v {ν : MTy} {idx : Nat} {b : Nat} {v1 v2 v3 v4 : Value} {rest : List Value} (hM : MOK ν 4) (hl : LkI (mN μ).cls idx ν) (hq : rmB R ν k rest = true) (hA : AOK μ ν L rest Y) (hd : decode (mC μ) pc = .ok (.invokespecial idx, 3)) (hc : Tn Γ ν [.ref b, v1, v2, v3, v4] Y (rt none Z)) (hk : (k.1 + mM ν, k.2 + mS ν) = k') (kk : G Γ μ R W k' (pc + 3) L (rest) Z) : G Γ μ R W k pc L (v4 :: v3 :: v2 :: v1 :: .ref b :: rest) Y := by
  subst hk
  exact G_callI hM hl (rmB_ok hq).1 (as := [v1, v2, v3, v4]) rfl rfl (rmB_ok hq).2 hA hd hc (by rintro _ _ ⟨rfl, rfl⟩; exact kk)
theorem K_U4r {ν : MTy} {idx : Nat} {b cb : Nat} {owner : String} {x : MethodName} {v1 v2 v3 v4 : Value} {rest : List Value} {u : Value} (hM : MOK ν 4) (hl : LkU (mN μ).cls idx (cN cb) owner x ν) (hx : (parseMethodDescriptor x.desc).map (fun d => d.parameters.length) = some 4) (hb : xK Y b = cb) (hcb : Nat.blt cb 10 = true) (hq : rmB R ν k rest = true) (hA : AOK μ ν L rest Y) (hd : decode (mC μ) pc = .ok (.invokevirtual idx, 3)) (hc : Tn Γ ν [.ref b, v1, v2, v3, v4] Y (rt (some u) Z)) (hk : (k.1 + mM ν, k.2 + mS ν) = k') (kk : G Γ μ R W k' (pc + 3) L (u :: rest) Z) : G Γ μ R W k pc L (v4 :: v3 :: v2 :: v1 :: .ref b :: rest) Y := by
  subst hk
  exact G_callU hM hl hx (rmB_ok hq).1 hb (Nat.lt_of_lt_of_le (Nat.le_of_ble_eq_true hcb) (Nat.le_refl _)) (as := [v1, v2, v3, v4]) rfl rfl (rmB_ok hq).2 hA hd hc (by rintro _ _ ⟨rfl, rfl⟩; exact kk)
theorem K_U4v {ν : MTy} {idx : Nat} {b cb : Nat} {owner : String} {x : MethodName} {v1 v2 v3 v4 : Value} {rest : List Value} (hM : MOK ν 4) (hl : LkU (mN μ).cls idx (cN cb) owner x ν) (hx : (parseMethodDescriptor x.desc).map (fun d => d.parameters.length) = some 4) (hb : xK Y b = cb) (hcb : Nat.blt cb 10 = true) (hq : rmB R ν k rest = true) (hA : AOK μ ν L rest Y) (hd : decode (mC μ) pc = .ok (.invokevirtual idx, 3)) (hc : Tn Γ ν [.ref b, v1, v2, v3, v4] Y (rt none Z)) (hk : (k.1 + mM ν, k.2 + mS ν) = k') (kk : G Γ μ R W k' (pc + 3) L (rest) Z) : G Γ μ R W k pc L (v4 :: v3 :: v2 :: v1 :: .ref b :: rest) Y := by
  subst hk
  exact G_callU hM hl hx (rmB_ok hq).1 hb (Nat.lt_of_lt_of_le (Nat.le_of_ble_eq_true hcb) (Nat.le_refl _)) (as := [v1, v2, v3, v4]) rfl rfl (rmB_ok hq).2 hA hd hc (by rintro _ _ ⟨rfl, rfl⟩; exact kk)
theorem K_V5 {ν : MTy} {idx : Nat} {b cb : Nat} {v1 v2 v3 v4 v5 : Value} {rest : List Value} {QV' : Option Value → HS → Prop} {QX' : String → HS → Prop} (hM : MOK ν 5) (hl : LkV (mN μ).cls idx ν) (hb : xK Y b = cb) (hcb : Nat.blt cb 10 = true) (hcc : cN cb = (mN ν).cls) (hq : rmB R ν k rest = true) (hA : AOK μ ν L rest Y) (hd : decode (mC μ) pc = .ok (.invokevirtual idx, 3)) (hc : Tt Γ ν [.ref b, v1, v2, v3, v4, v5] Y QV' QX') (hk : (k.1 + mM ν, k.2 + mS ν) = k') (kk : ∀ (v : Option Value) (Y' : HS), QV' v Y' → G Γ μ R W k' (pc + 3) L (v.toList ++ rest) Y') (kx : ∀ (E : String) (Y' : HS), QX' E Y' → GX Γ μ R W E k' pc L Y') : G Γ μ R W k pc L (v5 :: v4 :: v3 :: v2 :: v1 :: .ref b :: rest) Y := by
  subst hk
  exact G_callV hM hl (rmB_ok hq).1 hb (Nat.lt_of_lt_of_le (Nat.le_of_ble_eq_true hcb) (Nat.le_refl _)) hcc (as := [v1, v2, v3, v4, v5]) rfl rfl (rmB_ok hq).2 hA hd hc kk kx
theorem K_S5 {ν : MTy} {idx : Nat} {v1 v2 v3 v4 v5 : Value} {rest : List Value} {QV' : Option Value → HS → Prop} {QX' : String → HS → Prop} (hM : MOK ν 5) (hl : LkS (mN μ).cls idx ν) (hq : rmB R ν k rest = true) (hA : AOK μ ν L rest Y) (hd : decode (mC μ) pc = .ok (.invokestatic idx, 3)) (hc : Tt Γ ν [v1, v2, v3, v4, v5] Y QV' QX') (hk : (k.1 + mM ν, k.2 + mS ν) = k') (kk : ∀ (v : Option Value) (Y' : HS), QV' v Y' → G Γ μ R W k' (pc + 3) L (v.toList ++ rest) Y') (kx : ∀ (E : String) (Y' : HS), QX' E Y' → GX Γ μ R W E k' pc L Y') : G Γ μ R W k pc L (v5 :: v4 :: v3 :: v2 :: v1 :: rest) Y := by
  subst hk
  exact G_callS hM hl (rmB_ok hq).1 (as := [v1, v2, v3, v4, v5]) rfl rfl (rmB_ok hq).2 hA hd hc kk kx
theorem K_SW5 {ν : MTy} {idx : Nat} {v1 v2 v3 v4 v5 : Value} {rest : List Value} {QV' : Option Value → HS → Prop} {QX' : String → HS → Prop} (hM : MOW ν 5) (hl : LkS (mN μ).cls idx ν) (hq : rmB R ν k rest = true) (hA : AOK μ ν L rest Y) (hd : decode (mC μ) pc = .ok (.invokestatic idx, 3)) (hc : Tw Γ ν [v1, v2, v3, v4, v5] Y QV' QX') (hk : (k.1 + mM ν, k.2 + mS ν) = k') (kk : ∀ (v : Option Value) (Y' : HS), QV' v Y' → G Γ μ R W k' (pc + 3) L (v.toList ++ rest) Y') (kx : ∀ (E : String) (Y' : HS), QX' E Y' → GX Γ μ R W E k' pc L Y') : G Γ μ R W k pc L (v5 :: v4 :: v3 :: v2 :: v1 :: rest) Y := by
  subst hk
  exact G_callSW hM hl (rmB_ok hq).1 (as := [v1, v2, v3, v4, v5]) rfl rfl (rmB_ok hq).2 hA hd hc kk kx
theorem K_Vn5r {ν : MTy} {idx : Nat} {b cb : Nat} {v1 v2 v3 v4 v5 : Value} {rest : List Value} {u : Value} (hM : MOK ν 5) (hl : LkV (mN μ).cls idx ν) (hb : xK Y b = cb) (hcb : Nat.blt cb 10 = true) (hcc : cN cb = (mN ν).cls) (hq : rmB R ν k rest = true) (hA : AOK μ ν L rest Y) (hd : decode (mC μ) pc = .ok (.invokevirtual idx, 3)) (hc : Tn Γ ν [.ref b, v1, v2, v3, v4, v5] Y (rt (some u) Z)) (hk : (k.1 + mM ν, k.2 + mS ν) = k') (kk : G Γ μ R W k' (pc + 3) L (u :: rest) Z) : G Γ μ R W k pc L (v5 :: v4 :: v3 :: v2 :: v1 :: .ref b :: rest) Y := by
  subst hk
  exact G_callVn hM hl (rmB_ok hq).1 hb (Nat.lt_of_lt_of_le (Nat.le_of_ble_eq_true hcb) (Nat.le_refl _)) hcc (as := [v1, v2, v3, v4, v5]) rfl rfl (rmB_ok hq).2 hA hd hc (by rintro _ _ ⟨rfl, rfl⟩; exact kk)
theorem K_Vn5v {ν : MTy} {idx : Nat} {b cb : Nat} {v1 v2 v3 v4 v5 : Value} {rest : List Value} (hM : MOK ν 5) (hl : LkV (mN μ).cls idx ν) (hb : xK Y b = cb) (hcb : Nat.blt cb 10 = true) (hcc : cN cb = (mN ν).cls) (hq : rmB R ν k rest = true) (hA : AOK μ ν L rest Y) (hd : decode (mC μ) pc = .ok (.invokevirtual idx, 3)) (hc : Tn Γ ν [.ref b, v1, v2, v3, v4, v5] Y (rt none Z)) (hk : (k.1 + mM ν, k.2 + mS ν) = k') (kk : G Γ μ R W k' (pc + 3) L (rest) Z) : G Γ μ R W k pc L (v5 :: v4 :: v3 :: v2 :: v1 :: .ref b :: rest) Y := by
  subst hk
  exact G_callVn hM hl (rmB_ok hq).1 hb (Nat.lt_of_lt_of_le (Nat.le_of_ble_eq_true hcb) (Nat.le_refl _)) hcc (as := [v1, v2, v3, v4, v5]) rfl rfl (rmB_ok hq).2 hA hd hc (by rintro _ _ ⟨rfl, rfl⟩; exact kk)
theorem K_Sn5r {ν : MTy} {idx : Nat} {v1 v2 v3 v4 v5 : Value} {rest : List Value} {u : Value} (hM : MOK ν 5) (hl : LkS (mN μ).cls idx ν) (hq : rmB R ν k rest = true) (hA : AOK μ ν L rest Y) (hd : decode (mC μ) pc = .ok (.invokestatic idx, 3)) (hc : Tn Γ ν [v1, v2, v3, v4, v5] Y (rt (some u) Z)) (hk : (k.1 + mM ν, k.2 + mS ν) = k') (kk : G Γ μ R W k' (pc + 3) L (u :: rest) Z) : G Γ μ R W k pc L (v5 :: v4 :: v3 :: v2 :: v1 :: rest) Y := by
  subst hk
  exact G_callSn hM hl (rmB_ok hq).1 (as := [v1, v2, v3, v4, v5]) rfl rfl (rmB_ok hq).2 hA hd hc (by rintro _ _ ⟨rfl, rfl⟩; exact kk)
theorem K_Sn5v {ν : MTy} {idx : Nat} {v1 v2 v3 v4 v5 : Value} {rest : List Value} (hM : MOK ν 5) (hl : LkS (mN μ).cls idx ν) (hq : rmB R ν k rest = true) (hA : AOK μ ν L rest Y) (hd : decode (mC μ) pc = .ok (.invokestatic idx, 3)) (hc : Tn Γ ν [v1, v2, v3, v4, v5] Y (rt none Z)) (hk : (k.1 + mM ν, k.2 + mS ν) = k') (kk : G Γ μ R W k' (pc + 3) L (rest) Z) : G Γ μ R W k pc L (v5 :: v4 :: v3 :: v2 :: v1 :: rest) Y := by
  subst hk
  exact G_callSn hM hl (rmB_ok hq).1 (as := [v1, v2, v3, v4, v5]) rfl rfl (rmB_ok hq).2 hA hd hc (by rintro _ _ ⟨rfl, rfl⟩; exact kk)
theorem K_NS5r {ν : MTy} {idx : Nat} {host : String} {v1 v2 v3 v4 v5 : Value} {rest : List Value} {u : Value} (hM : MOK ν 5) (hl : LkNS (mN μ).cls idx host ν) (hq : rmB R ν k rest = true) (hA : AOK μ ν L rest Y) (hd : decode (mC μ) pc = .ok (.invokestatic idx, 3)) (hc : Tn Γ ν [v1, v2, v3, v4, v5] Y (rt (some u) Z)) (hk : (k.1 + mM ν, k.2 + mS ν) = k') (kk : G Γ μ R W k' (pc + 3) L (u :: rest) Z) : G Γ μ R W k pc L (v5 :: v4 :: v3 :: v2 :: v1 :: rest) Y := by
  subst hk
  exact G_callNS hM hl (rmB_ok hq).1 (as := [v1, v2, v3, v4, v5]) rfl rfl (rmB_ok hq).2 hA hd hc (by rintro _ _ ⟨rfl, rfl⟩; exact kk)
theorem K_NS5v {ν : MTy} {idx : Nat} {host : String} {v1 v2 v3 v4 v5 : Value} {rest : List Value} (hM : MOK ν 5) (hl : LkNS (mN μ).cls idx host ν) (hq : rmB R ν k rest = true) (hA : AOK μ ν L rest Y) (hd : decode (mC μ) pc = .ok (.invokestatic idx, 3)) (hc : Tn Γ ν [v1, v2, v3, v4, v5] Y (rt none Z)) (hk : (k.1 + mM ν, k.2 + mS ν) = k') (kk : G Γ μ R W k' (pc + 3) L (rest) Z) : G Γ μ R W k pc L (v5 :: v4 :: v3 :: v2 :: v1 :: rest) Y := by
  subst hk
  exact G_callNS hM hl (rmB_ok hq).1 (as := [v1, v2, v3, v4, v5]) rfl rfl (rmB_ok hq).2 hA hd hc (by rintro _ _ ⟨rfl, rfl⟩; exact kk)
theorem K_NI5r {ν : MTy} {idx : Nat} {b : Nat} {host : String} {v1 v2 v3 v4 v5 : Value} {rest : List Value} {u : Value} (hM : MOK ν 5) (hl : LkNI (mN μ).cls idx host ν) (hq : rmB R ν k rest = true) (hA : AOK μ ν L rest Y) (hd : decode (mC μ) pc = .ok (.invokespecial idx, 3)) (hc : Tn Γ ν [.ref b, v1, v2, v3, v4, v5] Y (rt (some u) Z)) (hk : (k.1 + mM ν, k.2 + mS ν) = k') (kk : G Γ μ R W k' (pc + 3) L (u :: rest) Z) : G Γ μ R W k pc L (v5 :: v4 :: v3 :: v2 :: v1 :: .ref b :: rest) Y := by
  subst hk
  exact G_callNI hM hl (rmB_ok hq).1 (as := [v1, v2, v3, v4, v5]) rfl rfl (rmB_ok hq).2 hA hd hc (by rintro _ _ ⟨rfl, rfl⟩; exact kk)
theorem K_NI5v {ν : MTy} {idx : Nat} {b : Nat} {host : String} {v1 v2 v3 v4 v5 : Value} {rest : List Value} (hM : MOK ν 5) (hl : LkNI (mN μ).cls idx host ν) (hq : rmB R ν k rest = true) (hA : AOK μ ν L rest Y) (hd : decode (mC μ) pc = .ok (.invokespecial idx, 3)) (hc : Tn Γ ν [.ref b, v1, v2, v3, v4, v5] Y (rt none Z)) (hk : (k.1 + mM ν, k.2 + mS ν) = k') (kk : G Γ μ R W k' (pc + 3) L (rest) Z) : G Γ μ R W k pc L (v5 :: v4 :: v3 :: v2 :: v1 :: .ref b :: rest) Y := by
  subst hk
  exact G_callNI hM hl (rmB_ok hq).1 (as := [v1, v2, v3, v4, v5]) rfl rfl (rmB_ok hq).2 hA hd hc (by rintro _ _ ⟨rfl, rfl⟩; exact kk)
theorem K_I5r {ν : MTy} {idx : Nat} {b : Nat} {v1 v2 v3 v4 v5 : Value} {rest : List Value} {u : Value} (hM : MOK ν 5) (hl : LkI (mN μ).cls idx ν) (hq : rmB R ν k rest = true) (hA : AOK μ ν L rest Y) (hd : decode (mC μ) pc = .ok (.invokespecial idx, 3)) (hc : Tn Γ ν [.ref b, v1, v2, v3, v4, v5] Y (rt (some u) Z)) (hk : (k.1 + mM ν, k.2 + mS ν) = k') (kk : G Γ μ R W k' (pc + 3) L (u :: rest) Z) : G Γ μ R W k pc L (v5 :: v4 :: v3 :: v2 :: v1 :: .ref b :: rest) Y := by
  subst hk
  exact G_callI hM hl (rmB_ok hq).1 (as := [v1, v2, v3, v4, v5]) rfl rfl (rmB_ok hq).2 hA hd hc (by rintro _ _ ⟨rfl, rfl⟩; exact kk)
theorem K_I5v {ν : MTy} {idx : Nat} {b : Nat} {v1 v2 v3 v4 v5 : Value} {rest : List Value} (hM : MOK ν 5) (hl : LkI (mN μ).cls idx ν) (hq : rmB R ν k rest = true) (hA : AOK μ ν L rest Y) (hd : decode (mC μ) pc = .ok (.invokespecial idx, 3)) (hc : Tn Γ ν [.ref b, v1, v2, v3, v4, v5] Y (rt none Z)) (hk : (k.1 + mM ν, k.2 + mS ν) = k') (kk : G Γ μ R W k' (pc + 3) L (rest) Z) : G Γ μ R W k pc L (v5 :: v4 :: v3 :: v2 :: v1 :: .ref b :: rest) Y := by
  subst hk
  exact G_callI hM hl (rmB_ok hq).1 (as := [v1, v2, v3, v4, v5]) rfl rfl (rmB_ok hq).2 hA hd hc (by rintro _ _ ⟨rfl, rfl⟩; exact kk)
theorem K_U5r {ν : MTy} {idx : Nat} {b cb : Nat} {owner : String} {x : MethodName} {v1 v2 v3 v4 v5 : Value} {rest : List Value} {u : Value} (hM : MOK ν 5) (hl : LkU (mN μ).cls idx (cN cb) owner x ν) (hx : (parseMethodDescriptor x.desc).map (fun d => d.parameters.length) = some 5) (hb : xK Y b = cb) (hcb : Nat.blt cb 10 = true) (hq : rmB R ν k rest = true) (hA : AOK μ ν L rest Y) (hd : decode (mC μ) pc = .ok (.invokevirtual idx, 3)) (hc : Tn Γ ν [.ref b, v1, v2, v3, v4, v5] Y (rt (some u) Z)) (hk : (k.1 + mM ν, k.2 + mS ν) = k') (kk : G Γ μ R W k' (pc + 3) L (u :: rest) Z) : G Γ μ R W k pc L (v5 :: v4 :: v3 :: v2 :: v1 :: .ref b :: rest) Y := by
  subst hk
  exact G_callU hM hl hx (rmB_ok hq).1 hb (Nat.lt_of_lt_of_le (Nat.le_of_ble_eq_true hcb) (Nat.le_refl _)) (as := [v1, v2, v3, v4, v5]) rfl rfl (rmB_ok hq).2 hA hd hc (by rintro _ _ ⟨rfl, rfl⟩; exact kk)
theorem K_U5v {ν : MTy} {idx : Nat} {b cb : Nat} {owner : String} {x : MethodName} {v1 v2 v3 v4 v5 : Value} {rest : List Value} (hM : MOK ν 5) (hl : LkU (mN μ).cls idx (cN cb) owner x ν) (hx : (parseMethodDescriptor x.desc).map (fun d => d.parameters.length) = some 5) (hb : xK Y b = cb) (hcb : Nat.blt cb 10 = true) (hq : rmB R ν k rest = true) (hA : AOK μ ν L rest Y) (hd : decode (mC μ) pc = .ok (.invokevirtual idx, 3)) (hc : Tn Γ ν [.ref b, v1, v2, v3, v4, v5] Y (rt none Z)) (hk : (k.1 + mM ν, k.2 + mS ν) = k') (kk : G Γ μ R W k' (pc + 3) L (rest) Z) : G Γ μ R W k pc L (v5 :: v4 :: v3 :: v2 :: v1 :: .ref b :: rest) Y := by
  subst hk
  exact G_callU hM hl hx (rmB_ok hq).1 hb (Nat.lt_of_lt_of_le (Nat.le_of_ble_eq_true hcb) (Nat.le_refl _)) (as := [v1, v2, v3, v4, v5]) rfl rfl (rmB_ok hq).2 hA hd hc (by rintro _ _ ⟨rfl, rfl⟩; exact kk)
theorem K_V6 {ν : MTy} {idx : Nat} {b cb : Nat} {v1 v2 v3 v4 v5 v6 : Value} {rest : List Value} {QV' : Option Value → HS → Prop} {QX' : String → HS → Prop} (hM : MOK ν 6) (hl : LkV (mN μ).cls idx ν) (hb : xK Y b = cb) (hcb : Nat.blt cb 10 = true) (hcc : cN cb = (mN ν).cls) (hq : rmB R ν k rest = true) (hA : AOK μ ν L rest Y) (hd : decode (mC μ) pc = .ok (.invokevirtual idx, 3)) (hc : Tt Γ ν [.ref b, v1, v2, v3, v4, v5, v6] Y QV' QX') (hk : (k.1 + mM ν, k.2 + mS ν) = k') (kk : ∀ (v : Option Value) (Y' : HS), QV' v Y' → G Γ μ R W k' (pc + 3) L (v.toList ++ rest) Y') (kx : ∀ (E : String) (Y' : HS), QX' E Y' → GX Γ μ R W E k' pc L Y') : G Γ μ R W k pc L (v6 :: v5 :: v4 :: v3 :: v2 :: v1 :: .ref b :: rest) Y := by
  subst hk
  exact G_callV hM hl (rmB_ok hq).1 hb (Nat.lt_of_lt_of_le (Nat.le_of_ble_eq_true hcb) (Nat.le_refl _)) hcc (as := [v1, v2, v3, v4, v5, v6]) rfl rfl (rmB_ok hq).2 hA hd hc kk kx
theorem K_S6 {ν : MTy} {idx : Nat} {v1 v2 v3 v4 v5 v6 : Value} {rest : List Value} {QV' : Option Value → HS → Prop} {QX' : String → HS → Prop} (hM : MOK ν 6) (hl : LkS (mN μ).cls idx ν) (hq : rmB R ν k rest = true) (hA : AOK μ ν L rest Y) (hd : decode (mC μ) pc = .ok (.invokestatic idx, 3)) (hc : Tt Γ ν [v1, v2, v3, v4, v5, v6] Y QV' QX') (hk : (k.1 + mM ν, k.2 + mS ν) = k') (kk : ∀ (v : Option Value) (Y' : HS), QV' v Y' → G Γ μ R W k' (pc + 3) L (v.toList ++ rest) Y') (kx : ∀ (E : String) (Y' : HS), QX' E Y' → GX Γ μ R W E k' pc L Y') : G Γ μ R W k pc L (v6 :: v5 :: v4 :: v3 :: v2 :: v1 :: rest) Y := by
  subst hk
  exact G_callS hM hl (rmB_ok hq).1 (as := [v1, v2, v3, v4, v5, v6]) rfl rfl (rmB_ok hq).2 hA hd hc kk kx
theorem K_SW6 {ν : MTy} {idx : Nat} {v1 v2 v3 v4 v5 v6 : Value} {rest : List Value} {QV' : Option Value → HS → Prop} {QX' : String → HS → Prop} (hM : MOW ν 6) (hl : LkS (mN μ).cls idx ν) (hq : rmB R ν k rest = true) (hA : AOK μ ν L rest Y) (hd : decode (mC μ) pc = .ok (.invokestatic idx, 3)) (hc : Tw Γ ν [v1, v2, v3, v4, v5, v6] Y QV' QX') (hk : (k.1 + mM ν, k.2 + mS ν) = k') (kk : ∀ (v : Option Value) (Y' : HS), QV' v Y' → G Γ μ R W k' (pc + 3) L (v.toList ++ rest) Y') (kx : ∀ (E : String) (Y' : HS), QX' E Y' → GX Γ μ R W E k' pc L Y') : G Γ μ R W k pc L (v6 :: v5 :: v4 :: v3 :: v2 :: v1 :: rest) Y := by
  subst hk
  exact G_callSW hM hl (rmB_ok hq).1 (as := [v1, v2, v3, v4, v5, v6]) rfl rfl (rmB_ok hq).2 hA hd hc kk kx
theorem K_Vn6r {ν : MTy} {idx : Nat} {b cb : Nat} {v1 v2 v3 v4 v5 v6 : Value} {rest : List Value} {u : Value} (hM : MOK ν 6) (hl : LkV (mN μ).cls idx ν) (hb : xK Y b = cb) (hcb : Nat.blt cb 10 = true) (hcc : cN cb = (mN ν).cls) (hq : rmB R ν k rest = true) (hA : AOK μ ν L rest Y) (hd : decode (mC μ) pc = .ok (.invokevirtual idx, 3)) (hc : Tn Γ ν [.ref b, v1, v2, v3, v4, v5, v6] Y (rt (some u) Z)) (hk : (k.1 + mM ν, k.2 + mS ν) = k') (kk : G Γ μ R W k' (pc + 3) L (u :: rest) Z) : G Γ μ R W k pc L (v6 :: v5 :: v4 :: v3 :: v2 :: v1 :: .ref b :: rest) Y := by
  subst hk
  exact G_callVn hM hl (rmB_ok hq).1 hb (Nat.lt_of_lt_of_le (Nat.le_of_ble_eq_true hcb) (Nat.le_refl _)) hcc (as := [v1, v2, v3, v4, v5, v6]) rfl rfl (rmB_ok hq).2 hA hd hc (by rintro _ _ ⟨rfl, rfl⟩; exact kk)
theorem K_Vn6v {ν : MTy} {idx : Nat} {b cb : Nat} {v1 v2 v3 v4 v5 v6 : Value} {rest : List Value} (hM : MOK ν 6) (hl : LkV (mN μ).cls idx ν) (hb : xK Y b = cb) (hcb : Nat.blt cb 10 = true) (hcc : cN cb = (mN ν).cls) (hq : rmB R ν k rest = true) (hA : AOK μ ν L rest Y) (hd : decode (mC μ) pc = .ok (.invokevirtual idx, 3)) (hc : Tn Γ ν [.ref b, v1, v2, v3, v4, v5, v6] Y (rt none Z)) (hk : (k.1 + mM ν, k.2 + mS ν) = k') (kk : G Γ μ R W k' (pc + 3) L (rest) Z) : G Γ μ R W k pc L (v6 :: v5 :: v4 :: v3 :: v2 :: v1 :: .ref b :: rest) Y := by
  subst hk
  exact G_callVn hM hl (rmB_ok hq).1 hb (Nat.lt_of_lt_of_le (Nat.le_of_ble_eq_true hcb) (Nat.le_refl _)) hcc (as := [v1, v2, v3, v4, v5, v6]) rfl rfl (rmB_ok hq).2 hA hd hc (by rintro _ _ ⟨rfl, rfl⟩; exact kk)
theorem K_Sn6r {ν : MTy} {idx : Nat} {v1 v2 v3 v4 v5 v6 : Value} {rest : List Value} {u : Value} (hM : MOK ν 6) (hl : LkS (mN μ).cls idx ν) (hq : rmB R ν k rest = true) (hA : AOK μ ν L rest Y) (hd : decode (mC μ) pc = .ok (.invokestatic idx, 3)) (hc : Tn Γ ν [v1, v2, v3, v4, v5, v6] Y (rt (some u) Z)) (hk : (k.1 + mM ν, k.2 + mS ν) = k') (kk : G Γ μ R W k' (pc + 3) L (u :: rest) Z) : G Γ μ R W k pc L (v6 :: v5 :: v4 :: v3 :: v2 :: v1 :: rest) Y := by
  subst hk
  exact G_callSn hM hl (rmB_ok hq).1 (as := [v1, v2, v3, v4, v5, v6]) rfl rfl (rmB_ok hq).2 hA hd hc (by rintro _ _ ⟨rfl, rfl⟩; exact kk)
theorem K_Sn6v {ν : MTy} {idx : Nat} {v1 v2 v3 v4 v5 v6 : Value} {rest : List Value} (hM : MOK ν 6) (hl : LkS (mN μ).cls idx ν) (hq : rmB R ν k rest = true) (hA : AOK μ ν L rest Y) (hd : decode (mC μ) pc = .ok (.invokestatic idx, 3)) (hc : Tn Γ ν [v1, v2, v3, v4, v5, v6] Y (rt none Z)) (hk : (k.1 + mM ν, k.2 + mS ν) = k') (kk : G Γ μ R W k' (pc + 3) L (rest) Z) : G Γ μ R W k pc L (v6 :: v5 :: v4 :: v3 :: v2 :: v1 :: rest) Y := by
  subst hk
  exact G_callSn hM hl (rmB_ok hq).1 (as := [v1, v2, v3, v4, v5, v6]) rfl rfl (rmB_ok hq).2 hA hd hc (by rintro _ _ ⟨rfl, rfl⟩; exact kk)
theorem K_NS6r {ν : MTy} {idx : Nat} {host : String} {v1 v2 v3 v4 v5 v6 : Value} {rest : List Value} {u : Value} (hM : MOK ν 6) (hl : LkNS (mN μ).cls idx host ν) (hq : rmB R ν k rest = true) (hA : AOK μ ν L rest Y) (hd : decode (mC μ) pc = .ok (.invokestatic idx, 3)) (hc : Tn Γ ν [v1, v2, v3, v4, v5, v6] Y (rt (some u) Z)) (hk : (k.1 + mM ν, k.2 + mS ν) = k') (kk : G Γ μ R W k' (pc + 3) L (u :: rest) Z) : G Γ μ R W k pc L (v6 :: v5 :: v4 :: v3 :: v2 :: v1 :: rest) Y := by
  subst hk
  exact G_callNS hM hl (rmB_ok hq).1 (as := [v1, v2, v3, v4, v5, v6]) rfl rfl (rmB_ok hq).2 hA hd hc (by rintro _ _ ⟨rfl, rfl⟩; exact kk)
theorem K_NS6v {ν : MTy} {idx : Nat} {host : String} {v1 v2 v3 v4 v5 v6 : Value} {rest : List Value} (hM : MOK ν 6) (hl : LkNS (mN μ).cls idx host ν) (hq : rmB R ν k rest = true) (hA : AOK μ ν L rest Y) (hd : decode (mC μ) pc = .ok (.invokestatic idx, 3)) (hc : Tn Γ ν [v1, v2, v3, v4, v5, v6] Y (rt none Z)) (hk : (k.1 + mM ν, k.2 + mS ν) = k') (kk : G Γ μ R W k' (pc + 3) L (rest) Z) : G Γ μ R W k pc L (v6 :: v5 :: v4 :: v3 :: v2 :: v1 :: rest) Y := by
  subst hk
  exact G_callNS hM hl (rmB_ok hq).1 (as := [v1, v2, v3, v4, v5, v6]) rfl rfl (rmB_ok hq).2 hA hd hc (by rintro _ _ ⟨rfl, rfl⟩; exact kk)
theorem K_NI6r {ν : MTy} {idx : Nat} {b : Nat} {host : String} {v1 v2 v3 v4 v5 v6 : Value} {rest : List Value} {u : Value} (hM : MOK ν 6) (hl : LkNI (mN μ).cls idx host ν) (hq : rmB R ν k rest = true) (hA : AOK μ ν L rest Y) (hd : decode (mC μ) pc = .ok (.invokespecial idx, 3)) (hc : Tn Γ ν [.ref b, v1, v2, v3, v4, v5, v6] Y (rt (some u) Z)) (hk : (k.1 + mM ν, k.2 + mS ν) = k') (kk : G Γ μ R W k' (pc + 3) L (u :: rest) Z) : G Γ μ R W k pc L (v6 :: v5 :: v4 :: v3 :: v2 :: v1 :: .ref b :: rest) Y := by
  subst hk
  exact G_callNI hM hl (rmB_ok hq).1 (as := [v1, v2, v3, v4, v5, v6]) rfl rfl (rmB_ok hq).2 hA hd hc (by rintro _ _ ⟨rfl, rfl⟩; exact kk)
theorem K_NI6v {ν : MTy} {idx : Nat} {b : Nat} {host : String} {v1 v2 v3 v4 v5 v6 : Value} {rest : List Value} (hM : MOK ν 6) (hl : LkNI (mN μ).cls idx host ν) (hq : rmB R ν k rest = true) (hA : AOK μ ν L rest Y) (hd : decode (mC μ) pc = .ok (.invokespecial idx, 3)) (hc : Tn Γ ν [.ref b, v1, v2, v3, v4, v5, v6] Y (rt none Z)) (hk : (k.1 + mM ν, k.2 + mS ν) = k') (kk : G Γ μ R W k' (pc + 3) L (rest) Z) : G Γ μ R W k pc L (v6 :: v5 :: v4 :: v3 :: v2 :: v1 :: .ref b :: rest) Y := by
  subst hk
  exact G_callNI hM hl (rmB_ok hq).1 (as := [v1, v2, v3, v4, v5, v6]) rfl rfl (rmB_ok hq).2 hA hd hc (by rintro _ _ ⟨rfl, rfl⟩; exact kk)
theorem K_I6r {ν : MTy} {idx : Nat} {b : Nat} {v1 v2 v3 v4 v5 v6 : Value} {rest : List Value} {u : Value} (hM : MOK ν 6) (hl : LkI (mN μ).cls idx ν) (hq : rmB R ν k rest = true) (hA : AOK μ ν L rest Y) (hd : decode (mC μ) pc = .ok (.invokespecial idx, 3)) (hc : Tn Γ ν [.ref b, v1, v2, v3, v4, v5, v6] Y (rt (some u) Z)) (hk : (k.1 + mM ν, k.2 + mS ν) = k') (kk : G Γ μ R W k' (pc + 3) L (u :: rest) Z) : G Γ μ R W k pc L (v6 :: v5 :: v4 :: v3 :: v2 :: v1 :: .ref b :: rest) Y := by
  subst hk
  exact G_callI hM hl (rmB_ok hq).1 (as := [v1, v2, v3, v4, v5, v6]) rfl rfl (rmB_ok hq).2 hA hd hc (by rintro _ _ ⟨rfl, rfl⟩; exact kk)
theorem K_I6v {ν : MTy} {idx : Nat} {b : Nat} {v1 v2 v3 v4 v5 v6 : Value} {rest : List Value} (hM : MOK ν 6) (hl : LkI (mN μ).cls idx ν) (hq : rmB R ν k rest = true) (hA : AOK μ ν L rest Y) (hd : decode (mC μ) pc = .ok (.invokespecial idx, 3)) (hc : Tn Γ ν [.ref b, v1, v2, v3, v4, v5, v6] Y (rt none Z)) (hk : (k.1 + mM ν, k.2 + mS ν) = k') (kk : G Γ μ R W k' (pc + 3) L (rest) Z) : G Γ μ R W k pc L (v6 :: v5 :: v4 :: v3 :: v2 :: v1 :: .ref b :: rest) Y := by
  subst hk
  exact G_callI hM hl (rmB_ok hq).1 (as := [v1, v2, v3, v4, v5, v6]) rfl rfl (rmB_ok hq).2 hA hd hc (by rintro _ _ ⟨rfl, rfl⟩; exact kk)
theorem K_U6r {ν : MTy} {idx : Nat} {b cb : Nat} {owner : String} {x : MethodName} {v1 v2 v3 v4 v5 v6 : Value} {rest : List Value} {u : Value} (hM : MOK ν 6) (hl : LkU (mN μ).cls idx (cN cb) owner x ν) (hx : (parseMethodDescriptor x.desc).map (fun d => d.parameters.length) = some 6) (hb : xK Y b = cb) (hcb : Nat.blt cb 10 = true) (hq : rmB R ν k rest = true) (hA : AOK μ ν L rest Y) (hd : decode (mC μ) pc = .ok (.invokevirtual idx, 3)) (hc : Tn Γ ν [.ref b, v1, v2, v3, v4, v5, v6] Y (rt (some u) Z)) (hk : (k.1 + mM ν, k.2 + mS ν) = k') (kk : G Γ μ R W k' (pc + 3) L (u :: rest) Z) : G Γ μ R W k pc L (v6 :: v5 :: v4 :: v3 :: v2 :: v1 :: .ref b :: rest) Y := by
  subst hk
  exact G_callU hM hl hx (rmB_ok hq).1 hb (Nat.lt_of_lt_of_le (Nat.le_of_ble_eq_true hcb) (Nat.le_refl _)) (as := [v1, v2, v3, v4, v5, v6]) rfl rfl (rmB_ok hq).2 hA hd hc (by rintro _ _ ⟨rfl, rfl⟩; exact kk)
theorem K_U6v {ν : MTy} {idx : Nat} {b cb : Nat} {owner : String} {x : MethodName} {v1 v2 v3 v4 v5 v6 : Value} {rest : List Value} (hM : MOK ν 6) (hl : LkU (mN μ).cls idx (cN cb) owner x ν) (hx : (parseMethodDescriptor x.desc).map (fun d => d.parameters.length) = some 6) (hb : xK Y b = cb) (hcb : Nat.blt cb 10 = true) (hq : rmB R ν k rest = true) (hA : AOK μ ν L rest Y) (hd : decode (mC μ) pc = .ok (.invokevirtual idx, 3)) (hc : Tn Γ ν [.ref b, v1, v2, v3, v4, v5, v6] Y (rt none Z)) (hk : (k.1 + mM ν, k.2 + mS ν) = k') (kk : G Γ μ R W k' (pc + 3) L (rest) Z) : G Γ μ R W k pc L (v6 :: v5 :: v4 :: v3 :: v2 :: v1 :: .ref b :: rest) Y := by
  subst hk
  exact G_callU hM hl hx (rmB_ok hq).1 hb (Nat.lt_of_lt_of_le (Nat.le_of_ble_eq_true hcb) (Nat.le_refl _)) (as := [v1, v2, v3, v4, v5, v6]) rfl rfl (rmB_ok hq).2 hA hd hc (by rintro _ _ ⟨rfl, rfl⟩; exact kk)
end KC
end
