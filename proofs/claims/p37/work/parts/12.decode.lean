-- ===== decode rows (as printed of the program) =====
theorem dX0_init_0 : decode (mC M_X0_init) 0 = .ok (.aload_n 0, 1) := by decide +kernel
theorem dX0_init_1 : decode (mC M_X0_init) 1 = .ok (.invokespecial 3, 3) := by decide +kernel
theorem dX0_init_4 : decode (mC M_X0_init) 4 = .ok (.aload_n 0, 1) := by decide +kernel
theorem dX0_init_5 : decode (mC M_X0_init) 5 = .ok (.sipush 128, 3) := by decide +kernel
theorem dX0_init_8 : decode (mC M_X0_init) 8 = .ok (.newarray .int, 2) := by decide +kernel
theorem dX0_init_10 : decode (mC M_X0_init) 10 = .ok (.putfield 9, 3) := by decide +kernel
theorem dX0_init_13 : decode (mC M_X0_init) 13 = .ok (.return_, 1) := by decide +kernel
theorem dX0_lay_0 : decode (mC M_X0_lay) 0 = .ok (.iconst 0, 1) := by decide +kernel
theorem dX0_lay_1 : decode (mC M_X0_lay) 1 = .ok (.istore_n 1, 1) := by decide +kernel
theorem dX0_lay_2 : decode (mC M_X0_lay) 2 = .ok (.iload_n 1, 1) := by decide +kernel
theorem dX0_lay_3 : decode (mC M_X0_lay) 3 = .ok (.aload_n 0, 1) := by decide +kernel
theorem dX0_lay_4 : decode (mC M_X0_lay) 4 = .ok (.getfield 9, 3) := by decide +kernel
theorem dX0_lay_7 : decode (mC M_X0_lay) 7 = .ok (.arraylength, 1) := by decide +kernel
theorem dX0_lay_8 : decode (mC M_X0_lay) 8 = .ok (.if_icmp .ge 16, 3) := by decide +kernel
theorem dX0_lay_11 : decode (mC M_X0_lay) 11 = .ok (.aload_n 0, 1) := by decide +kernel
theorem dX0_lay_12 : decode (mC M_X0_lay) 12 = .ok (.getfield 9, 3) := by decide +kernel
theorem dX0_lay_15 : decode (mC M_X0_lay) 15 = .ok (.iload_n 1, 1) := by decide +kernel
theorem dX0_lay_16 : decode (mC M_X0_lay) 16 = .ok (.iconst 0, 1) := by decide +kernel
theorem dX0_lay_17 : decode (mC M_X0_lay) 17 = .ok (.iastore, 1) := by decide +kernel
theorem dX0_lay_18 : decode (mC M_X0_lay) 18 = .ok (.iinc 1 1, 3) := by decide +kernel
theorem dX0_lay_21 : decode (mC M_X0_lay) 21 = .ok (.goto (-19), 3) := by decide +kernel
theorem dX0_lay_24 : decode (mC M_X0_lay) 24 = .ok (.iconst 0, 1) := by decide +kernel
theorem dX0_lay_25 : decode (mC M_X0_lay) 25 = .ok (.istore_n 1, 1) := by decide +kernel
theorem dX0_lay_26 : decode (mC M_X0_lay) 26 = .ok (.iload_n 1, 1) := by decide +kernel
theorem dX0_lay_27 : decode (mC M_X0_lay) 27 = .ok (.bipush 8, 2) := by decide +kernel
theorem dX0_lay_29 : decode (mC M_X0_lay) 29 = .ok (.if_icmp .ge 22, 3) := by decide +kernel
theorem dX0_lay_32 : decode (mC M_X0_lay) 32 = .ok (.aload_n 0, 1) := by decide +kernel
theorem dX0_lay_33 : decode (mC M_X0_lay) 33 = .ok (.aload_n 0, 1) := by decide +kernel
theorem dX0_lay_34 : decode (mC M_X0_lay) 34 = .ok (.getfield 15, 3) := by decide +kernel
theorem dX0_lay_37 : decode (mC M_X0_lay) 37 = .ok (.iload_n 1, 1) := by decide +kernel
theorem dX0_lay_38 : decode (mC M_X0_lay) 38 = .ok (.iaload, 1) := by decide +kernel
theorem dX0_lay_39 : decode (mC M_X0_lay) 39 = .ok (.iload_n 1, 1) := by decide +kernel
theorem dX0_lay_40 : decode (mC M_X0_lay) 40 = .ok (.iconst 1, 1) := by decide +kernel
theorem dX0_lay_41 : decode (mC M_X0_lay) 41 = .ok (.iadd, 1) := by decide +kernel
theorem dX0_lay_42 : decode (mC M_X0_lay) 42 = .ok (.invokevirtual 18, 3) := by decide +kernel
theorem dX0_lay_45 : decode (mC M_X0_lay) 45 = .ok (.iinc 1 1, 3) := by decide +kernel
theorem dX0_lay_48 : decode (mC M_X0_lay) 48 = .ok (.goto (-22), 3) := by decide +kernel
theorem dX0_lay_51 : decode (mC M_X0_lay) 51 = .ok (.return_, 1) := by decide +kernel
theorem dX0_ballBeside_0 : decode (mC M_X0_ballBeside) 0 = .ok (.iload_n 1, 1) := by decide +kernel
theorem dX0_ballBeside_1 : decode (mC M_X0_ballBeside) 1 = .ok (.ifCond .lt 9, 3) := by decide +kernel
theorem dX0_ballBeside_4 : decode (mC M_X0_ballBeside) 4 = .ok (.iload_n 1, 1) := by decide +kernel
theorem dX0_ballBeside_5 : decode (mC M_X0_ballBeside) 5 = .ok (.bipush 8, 2) := by decide +kernel
theorem dX0_ballBeside_7 : decode (mC M_X0_ballBeside) 7 = .ok (.if_icmp .lt 5, 3) := by decide +kernel
theorem dX0_ballBeside_10 : decode (mC M_X0_ballBeside) 10 = .ok (.iconst (-1), 1) := by decide +kernel
theorem dX0_ballBeside_11 : decode (mC M_X0_ballBeside) 11 = .ok (.ireturn, 1) := by decide +kernel
theorem dX0_ballBeside_12 : decode (mC M_X0_ballBeside) 12 = .ok (.aload_n 0, 1) := by decide +kernel
theorem dX0_ballBeside_13 : decode (mC M_X0_ballBeside) 13 = .ok (.getfield 15, 3) := by decide +kernel
theorem dX0_ballBeside_16 : decode (mC M_X0_ballBeside) 16 = .ok (.iload_n 1, 1) := by decide +kernel
theorem dX0_ballBeside_17 : decode (mC M_X0_ballBeside) 17 = .ok (.iaload, 1) := by decide +kernel
theorem dX0_ballBeside_18 : decode (mC M_X0_ballBeside) 18 = .ok (.iload_n 2, 1) := by decide +kernel
theorem dX0_ballBeside_19 : decode (mC M_X0_ballBeside) 19 = .ok (.invokestatic 22, 3) := by decide +kernel
theorem dX0_ballBeside_22 : decode (mC M_X0_ballBeside) 22 = .ok (.istore_n 3, 1) := by decide +kernel
theorem dX0_ballBeside_23 : decode (mC M_X0_ballBeside) 23 = .ok (.iload_n 3, 1) := by decide +kernel
theorem dX0_ballBeside_24 : decode (mC M_X0_ballBeside) 24 = .ok (.ifCond .lt 23, 3) := by decide +kernel
theorem dX0_ballBeside_27 : decode (mC M_X0_ballBeside) 27 = .ok (.iload_n 3, 1) := by decide +kernel
theorem dX0_ballBeside_28 : decode (mC M_X0_ballBeside) 28 = .ok (.aload_n 0, 1) := by decide +kernel
theorem dX0_ballBeside_29 : decode (mC M_X0_ballBeside) 29 = .ok (.getfield 9, 3) := by decide +kernel
theorem dX0_ballBeside_32 : decode (mC M_X0_ballBeside) 32 = .ok (.arraylength, 1) := by decide +kernel
theorem dX0_ballBeside_33 : decode (mC M_X0_ballBeside) 33 = .ok (.if_icmp .ge 14, 3) := by decide +kernel
theorem dX0_ballBeside_36 : decode (mC M_X0_ballBeside) 36 = .ok (.aload_n 0, 1) := by decide +kernel
theorem dX0_ballBeside_37 : decode (mC M_X0_ballBeside) 37 = .ok (.getfield 9, 3) := by decide +kernel
theorem dX0_ballBeside_40 : decode (mC M_X0_ballBeside) 40 = .ok (.iload_n 3, 1) := by decide +kernel
theorem dX0_ballBeside_41 : decode (mC M_X0_ballBeside) 41 = .ok (.iaload, 1) := by decide +kernel
theorem dX0_ballBeside_42 : decode (mC M_X0_ballBeside) 42 = .ok (.iconst 1, 1) := by decide +kernel
theorem dX0_ballBeside_43 : decode (mC M_X0_ballBeside) 43 = .ok (.isub, 1) := by decide +kernel
theorem dX0_ballBeside_44 : decode (mC M_X0_ballBeside) 44 = .ok (.goto 4, 3) := by decide +kernel
theorem dX0_ballBeside_47 : decode (mC M_X0_ballBeside) 47 = .ok (.iconst (-1), 1) := by decide +kernel
theorem dX0_ballBeside_48 : decode (mC M_X0_ballBeside) 48 = .ok (.ireturn, 1) := by decide +kernel
theorem dX0_note_0 : decode (mC M_X0_note) 0 = .ok (.aload_n 0, 1) := by decide +kernel
theorem dX0_note_1 : decode (mC M_X0_note) 1 = .ok (.iload_n 2, 1) := by decide +kernel
theorem dX0_note_2 : decode (mC M_X0_note) 2 = .ok (.iconst 0, 1) := by decide +kernel
theorem dX0_note_3 : decode (mC M_X0_note) 3 = .ok (.invokevirtual 18, 3) := by decide +kernel
theorem dX0_note_6 : decode (mC M_X0_note) 6 = .ok (.aload_n 0, 1) := by decide +kernel
theorem dX0_note_7 : decode (mC M_X0_note) 7 = .ok (.iload_n 3, 1) := by decide +kernel
theorem dX0_note_8 : decode (mC M_X0_note) 8 = .ok (.iload_n 1, 1) := by decide +kernel
theorem dX0_note_9 : decode (mC M_X0_note) 9 = .ok (.iconst 1, 1) := by decide +kernel
theorem dX0_note_10 : decode (mC M_X0_note) 10 = .ok (.iadd, 1) := by decide +kernel
theorem dX0_note_11 : decode (mC M_X0_note) 11 = .ok (.invokevirtual 18, 3) := by decide +kernel
theorem dX0_note_14 : decode (mC M_X0_note) 14 = .ok (.return_, 1) := by decide +kernel
theorem dX0_put_0 : decode (mC M_X0_put) 0 = .ok (.iload_n 1, 1) := by decide +kernel
theorem dX0_put_1 : decode (mC M_X0_put) 1 = .ok (.ifCond .lt 19, 3) := by decide +kernel
theorem dX0_put_4 : decode (mC M_X0_put) 4 = .ok (.iload_n 1, 1) := by decide +kernel
theorem dX0_put_5 : decode (mC M_X0_put) 5 = .ok (.aload_n 0, 1) := by decide +kernel
theorem dX0_put_6 : decode (mC M_X0_put) 6 = .ok (.getfield 9, 3) := by decide +kernel
theorem dX0_put_9 : decode (mC M_X0_put) 9 = .ok (.arraylength, 1) := by decide +kernel
theorem dX0_put_10 : decode (mC M_X0_put) 10 = .ok (.if_icmp .ge 10, 3) := by decide +kernel
theorem dX0_put_13 : decode (mC M_X0_put) 13 = .ok (.aload_n 0, 1) := by decide +kernel
theorem dX0_put_14 : decode (mC M_X0_put) 14 = .ok (.getfield 9, 3) := by decide +kernel
theorem dX0_put_17 : decode (mC M_X0_put) 17 = .ok (.iload_n 1, 1) := by decide +kernel
theorem dX0_put_18 : decode (mC M_X0_put) 18 = .ok (.iload_n 2, 1) := by decide +kernel
theorem dX0_put_19 : decode (mC M_X0_put) 19 = .ok (.iastore, 1) := by decide +kernel
theorem dX0_put_20 : decode (mC M_X0_put) 20 = .ok (.return_, 1) := by decide +kernel
theorem dX1_init_0 : decode (mC M_X1_init) 0 = .ok (.aload_n 0, 1) := by decide +kernel
theorem dX1_init_1 : decode (mC M_X1_init) 1 = .ok (.invokespecial 3, 3) := by decide +kernel
theorem dX1_init_4 : decode (mC M_X1_init) 4 = .ok (.return_, 1) := by decide +kernel
theorem dX1_isHeldBy_0 : decode (mC M_X1_isHeldBy) 0 = .ok (.aload_n 0, 1) := by decide +kernel
theorem dX1_isHeldBy_1 : decode (mC M_X1_isHeldBy) 1 = .ok (.getfield 9, 3) := by decide +kernel
theorem dX1_isHeldBy_4 : decode (mC M_X1_isHeldBy) 4 = .ok (.ifnull 18, 3) := by decide +kernel
theorem dX1_isHeldBy_7 : decode (mC M_X1_isHeldBy) 7 = .ok (.aload_n 0, 1) := by decide +kernel
theorem dX1_isHeldBy_8 : decode (mC M_X1_isHeldBy) 8 = .ok (.getfield 9, 3) := by decide +kernel
theorem dX1_isHeldBy_11 : decode (mC M_X1_isHeldBy) 11 = .ok (.getfield 15, 3) := by decide +kernel
theorem dX1_isHeldBy_14 : decode (mC M_X1_isHeldBy) 14 = .ok (.iload_n 1, 1) := by decide +kernel
theorem dX1_isHeldBy_15 : decode (mC M_X1_isHeldBy) 15 = .ok (.if_icmp .ne 7, 3) := by decide +kernel
theorem dX1_isHeldBy_18 : decode (mC M_X1_isHeldBy) 18 = .ok (.iconst 1, 1) := by decide +kernel
theorem dX1_isHeldBy_19 : decode (mC M_X1_isHeldBy) 19 = .ok (.goto 4, 3) := by decide +kernel
theorem dX1_isHeldBy_22 : decode (mC M_X1_isHeldBy) 22 = .ok (.iconst 0, 1) := by decide +kernel
theorem dX1_isHeldBy_23 : decode (mC M_X1_isHeldBy) 23 = .ok (.ireturn, 1) := by decide +kernel
theorem dX1_wearOff_0 : decode (mC M_X1_wearOff) 0 = .ok (.aload_n 0, 1) := by decide +kernel
theorem dX1_wearOff_1 : decode (mC M_X1_wearOff) 1 = .ok (.bipush 100, 2) := by decide +kernel
theorem dX1_wearOff_3 : decode (mC M_X1_wearOff) 3 = .ok (.aload_n 0, 1) := by decide +kernel
theorem dX1_wearOff_4 : decode (mC M_X1_wearOff) 4 = .ok (.getfield 21, 3) := by decide +kernel
theorem dX1_wearOff_7 : decode (mC M_X1_wearOff) 7 = .ok (.iload_n 1, 1) := by decide +kernel
theorem dX1_wearOff_8 : decode (mC M_X1_wearOff) 8 = .ok (.iconst 4, 1) := by decide +kernel
theorem dX1_wearOff_9 : decode (mC M_X1_wearOff) 9 = .ok (.idiv, 1) := by decide +kernel
theorem dX1_wearOff_10 : decode (mC M_X1_wearOff) 10 = .ok (.iadd, 1) := by decide +kernel
theorem dX1_wearOff_11 : decode (mC M_X1_wearOff) 11 = .ok (.iconst 1, 1) := by decide +kernel
theorem dX1_wearOff_12 : decode (mC M_X1_wearOff) 12 = .ok (.iadd, 1) := by decide +kernel
theorem dX1_wearOff_13 : decode (mC M_X1_wearOff) 13 = .ok (.invokestatic 24, 3) := by decide +kernel
theorem dX1_wearOff_16 : decode (mC M_X1_wearOff) 16 = .ok (.putfield 21, 3) := by decide +kernel
theorem dX1_wearOff_19 : decode (mC M_X1_wearOff) 19 = .ok (.return_, 1) := by decide +kernel
theorem dX2_init_0 : decode (mC M_X2_init) 0 = .ok (.aload_n 0, 1) := by decide +kernel
theorem dX2_init_1 : decode (mC M_X2_init) 1 = .ok (.invokespecial 3, 3) := by decide +kernel
theorem dX2_init_4 : decode (mC M_X2_init) 4 = .ok (.aload_n 0, 1) := by decide +kernel
theorem dX2_init_5 : decode (mC M_X2_init) 5 = .ok (.getstatic 9, 3) := by decide +kernel
theorem dX2_init_8 : decode (mC M_X2_init) 8 = .ok (.invokevirtual 13, 3) := by decide +kernel
theorem dX2_init_11 : decode (mC M_X2_init) 11 = .ok (.checkcast 14, 3) := by decide +kernel
theorem dX2_init_14 : decode (mC M_X2_init) 14 = .ok (.putfield 18, 3) := by decide +kernel
theorem dX2_init_17 : decode (mC M_X2_init) 17 = .ok (.aload_n 0, 1) := by decide +kernel
theorem dX2_init_18 : decode (mC M_X2_init) 18 = .ok (.iconst (-1), 1) := by decide +kernel
theorem dX2_init_19 : decode (mC M_X2_init) 19 = .ok (.putfield 23, 3) := by decide +kernel
theorem dX2_init_22 : decode (mC M_X2_init) 22 = .ok (.aload_n 0, 1) := by decide +kernel
theorem dX2_init_23 : decode (mC M_X2_init) 23 = .ok (.iload_n 1, 1) := by decide +kernel
theorem dX2_init_24 : decode (mC M_X2_init) 24 = .ok (.putfield 27, 3) := by decide +kernel
theorem dX2_init_27 : decode (mC M_X2_init) 27 = .ok (.aload_n 0, 1) := by decide +kernel
theorem dX2_init_28 : decode (mC M_X2_init) 28 = .ok (.iload_n 2, 1) := by decide +kernel
theorem dX2_init_29 : decode (mC M_X2_init) 29 = .ok (.putfield 30, 3) := by decide +kernel
theorem dX2_init_32 : decode (mC M_X2_init) 32 = .ok (.aload_n 0, 1) := by decide +kernel
theorem dX2_init_33 : decode (mC M_X2_init) 33 = .ok (.iload_n 3, 1) := by decide +kernel
theorem dX2_init_34 : decode (mC M_X2_init) 34 = .ok (.putfield 33, 3) := by decide +kernel
theorem dX2_init_37 : decode (mC M_X2_init) 37 = .ok (.aload_n 0, 1) := by decide +kernel
theorem dX2_init_38 : decode (mC M_X2_init) 38 = .ok (.iload 4, 2) := by decide +kernel
theorem dX2_init_40 : decode (mC M_X2_init) 40 = .ok (.putfield 36, 3) := by decide +kernel
theorem dX2_init_43 : decode (mC M_X2_init) 43 = .ok (.return_, 1) := by decide +kernel
theorem dX2_player_0 : decode (mC M_X2_player) 0 = .ok (.aload_n 0, 1) := by decide +kernel
theorem dX2_player_1 : decode (mC M_X2_player) 1 = .ok (.getfield 40, 3) := by decide +kernel
theorem dX2_player_4 : decode (mC M_X2_player) 4 = .ok (.ifCond .eq 10, 3) := by decide +kernel
theorem dX2_player_7 : decode (mC M_X2_player) 7 = .ok (.aload_n 0, 1) := by decide +kernel
theorem dX2_player_8 : decode (mC M_X2_player) 8 = .ok (.getfield 33, 3) := by decide +kernel
theorem dX2_player_11 : decode (mC M_X2_player) 11 = .ok (.goto 7, 3) := by decide +kernel
theorem dX2_player_14 : decode (mC M_X2_player) 14 = .ok (.aload_n 0, 1) := by decide +kernel
theorem dX2_player_15 : decode (mC M_X2_player) 15 = .ok (.getfield 30, 3) := by decide +kernel
theorem dX2_player_18 : decode (mC M_X2_player) 18 = .ok (.ireturn, 1) := by decide +kernel
theorem dX2_isOver_0 : decode (mC M_X2_isOver) 0 = .ok (.aload_n 0, 1) := by decide +kernel
theorem dX2_isOver_1 : decode (mC M_X2_isOver) 1 = .ok (.getfield 23, 3) := by decide +kernel
theorem dX2_isOver_4 : decode (mC M_X2_isOver) 4 = .ok (.iconst (-1), 1) := by decide +kernel
theorem dX2_isOver_5 : decode (mC M_X2_isOver) 5 = .ok (.if_icmp .eq 7, 3) := by decide +kernel
theorem dX2_isOver_8 : decode (mC M_X2_isOver) 8 = .ok (.iconst 1, 1) := by decide +kernel
theorem dX2_isOver_9 : decode (mC M_X2_isOver) 9 = .ok (.goto 4, 3) := by decide +kernel
theorem dX2_isOver_12 : decode (mC M_X2_isOver) 12 = .ok (.iconst 0, 1) := by decide +kernel
theorem dX2_isOver_13 : decode (mC M_X2_isOver) 13 = .ok (.ireturn, 1) := by decide +kernel
theorem dX2_isWaiting_0 : decode (mC M_X2_isWaiting) 0 = .ok (.aload_n 0, 1) := by decide +kernel
theorem dX2_isWaiting_1 : decode (mC M_X2_isWaiting) 1 = .ok (.getfield 43, 3) := by decide +kernel
theorem dX2_isWaiting_4 : decode (mC M_X2_isWaiting) 4 = .ok (.ifnonnull 14, 3) := by decide +kernel
theorem dX2_isWaiting_7 : decode (mC M_X2_isWaiting) 7 = .ok (.aload_n 0, 1) := by decide +kernel
theorem dX2_isWaiting_8 : decode (mC M_X2_isWaiting) 8 = .ok (.invokevirtual 47, 3) := by decide +kernel
theorem dX2_isWaiting_11 : decode (mC M_X2_isWaiting) 11 = .ok (.ifCond .ne 7, 3) := by decide +kernel
theorem dX2_isWaiting_14 : decode (mC M_X2_isWaiting) 14 = .ok (.iconst 1, 1) := by decide +kernel
theorem dX2_isWaiting_15 : decode (mC M_X2_isWaiting) 15 = .ok (.goto 4, 3) := by decide +kernel
theorem dX2_isWaiting_18 : decode (mC M_X2_isWaiting) 18 = .ok (.iconst 0, 1) := by decide +kernel
theorem dX2_isWaiting_19 : decode (mC M_X2_isWaiting) 19 = .ok (.ireturn, 1) := by decide +kernel
theorem dX2_lowestBall_0 : decode (mC M_X2_lowestBall) 0 = .ok (.iconst 1, 1) := by decide +kernel
theorem dX2_lowestBall_1 : decode (mC M_X2_lowestBall) 1 = .ok (.istore_n 1, 1) := by decide +kernel
theorem dX2_lowestBall_2 : decode (mC M_X2_lowestBall) 2 = .ok (.iload_n 1, 1) := by decide +kernel
theorem dX2_lowestBall_3 : decode (mC M_X2_lowestBall) 3 = .ok (.aload_n 0, 1) := by decide +kernel
theorem dX2_lowestBall_4 : decode (mC M_X2_lowestBall) 4 = .ok (.getfield 18, 3) := by decide +kernel
theorem dX2_lowestBall_7 : decode (mC M_X2_lowestBall) 7 = .ok (.arraylength, 1) := by decide +kernel
theorem dX2_lowestBall_8 : decode (mC M_X2_lowestBall) 8 = .ok (.if_icmp .ge 21, 3) := by decide +kernel
theorem dX2_lowestBall_11 : decode (mC M_X2_lowestBall) 11 = .ok (.aload_n 0, 1) := by decide +kernel
theorem dX2_lowestBall_12 : decode (mC M_X2_lowestBall) 12 = .ok (.getfield 18, 3) := by decide +kernel
theorem dX2_lowestBall_15 : decode (mC M_X2_lowestBall) 15 = .ok (.iload_n 1, 1) := by decide +kernel
theorem dX2_lowestBall_16 : decode (mC M_X2_lowestBall) 16 = .ok (.iaload, 1) := by decide +kernel
theorem dX2_lowestBall_17 : decode (mC M_X2_lowestBall) 17 = .ok (.iconst (-1), 1) := by decide +kernel
theorem dX2_lowestBall_18 : decode (mC M_X2_lowestBall) 18 = .ok (.if_icmp .eq 5, 3) := by decide +kernel
theorem dX2_lowestBall_21 : decode (mC M_X2_lowestBall) 21 = .ok (.iload_n 1, 1) := by decide +kernel
theorem dX2_lowestBall_22 : decode (mC M_X2_lowestBall) 22 = .ok (.ireturn, 1) := by decide +kernel
theorem dX2_lowestBall_23 : decode (mC M_X2_lowestBall) 23 = .ok (.iinc 1 1, 3) := by decide +kernel
theorem dX2_lowestBall_26 : decode (mC M_X2_lowestBall) 26 = .ok (.goto (-24), 3) := by decide +kernel
theorem dX2_lowestBall_29 : decode (mC M_X2_lowestBall) 29 = .ok (.iconst (-1), 1) := by decide +kernel
theorem dX2_lowestBall_30 : decode (mC M_X2_lowestBall) 30 = .ok (.ireturn, 1) := by decide +kernel
theorem dX2_settle_0 : decode (mC M_X2_settle) 0 = .ok (.aload_n 0, 1) := by decide +kernel
theorem dX2_settle_1 : decode (mC M_X2_settle) 1 = .ok (.invokevirtual 51, 3) := by decide +kernel
theorem dX2_settle_4 : decode (mC M_X2_settle) 4 = .ok (.istore_n 2, 1) := by decide +kernel
theorem dX2_settle_5 : decode (mC M_X2_settle) 5 = .ok (.iconst 0, 1) := by decide +kernel
theorem dX2_settle_6 : decode (mC M_X2_settle) 6 = .ok (.istore_n 3, 1) := by decide +kernel
theorem dX2_settle_7 : decode (mC M_X2_settle) 7 = .ok (.iload_n 3, 1) := by decide +kernel
theorem dX2_settle_8 : decode (mC M_X2_settle) 8 = .ok (.aload_n 0, 1) := by decide +kernel
theorem dX2_settle_9 : decode (mC M_X2_settle) 9 = .ok (.getfield 18, 3) := by decide +kernel
theorem dX2_settle_12 : decode (mC M_X2_settle) 12 = .ok (.arraylength, 1) := by decide +kernel
theorem dX2_settle_13 : decode (mC M_X2_settle) 13 = .ok (.if_icmp .ge 30, 3) := by decide +kernel
theorem dX2_settle_16 : decode (mC M_X2_settle) 16 = .ok (.iload_n 3, 1) := by decide +kernel
theorem dX2_settle_17 : decode (mC M_X2_settle) 17 = .ok (.aload_n 1, 1) := by decide +kernel
theorem dX2_settle_18 : decode (mC M_X2_settle) 18 = .ok (.getfield 55, 3) := by decide +kernel
theorem dX2_settle_21 : decode (mC M_X2_settle) 21 = .ok (.arraylength, 1) := by decide +kernel
theorem dX2_settle_22 : decode (mC M_X2_settle) 22 = .ok (.if_icmp .ge 21, 3) := by decide +kernel
theorem dX2_settle_25 : decode (mC M_X2_settle) 25 = .ok (.aload_n 0, 1) := by decide +kernel
theorem dX2_settle_26 : decode (mC M_X2_settle) 26 = .ok (.getfield 18, 3) := by decide +kernel
theorem dX2_settle_29 : decode (mC M_X2_settle) 29 = .ok (.iload_n 3, 1) := by decide +kernel
theorem dX2_settle_30 : decode (mC M_X2_settle) 30 = .ok (.aload_n 1, 1) := by decide +kernel
theorem dX2_settle_31 : decode (mC M_X2_settle) 31 = .ok (.getfield 55, 3) := by decide +kernel
theorem dX2_settle_34 : decode (mC M_X2_settle) 34 = .ok (.iload_n 3, 1) := by decide +kernel
theorem dX2_settle_35 : decode (mC M_X2_settle) 35 = .ok (.iaload, 1) := by decide +kernel
theorem dX2_settle_36 : decode (mC M_X2_settle) 36 = .ok (.iastore, 1) := by decide +kernel
theorem dX2_settle_37 : decode (mC M_X2_settle) 37 = .ok (.iinc 3 1, 3) := by decide +kernel
theorem dX2_settle_40 : decode (mC M_X2_settle) 40 = .ok (.goto (-33), 3) := by decide +kernel
theorem dX2_settle_43 : decode (mC M_X2_settle) 43 = .ok (.aload_n 0, 1) := by decide +kernel
theorem dX2_settle_44 : decode (mC M_X2_settle) 44 = .ok (.aload_n 1, 1) := by decide +kernel
theorem dX2_settle_45 : decode (mC M_X2_settle) 45 = .ok (.iload_n 2, 1) := by decide +kernel
theorem dX2_settle_46 : decode (mC M_X2_settle) 46 = .ok (.invokevirtual 58, 3) := by decide +kernel
theorem dX2_settle_49 : decode (mC M_X2_settle) 49 = .ok (.ifCond .eq 11, 3) := by decide +kernel
theorem dX2_settle_52 : decode (mC M_X2_settle) 52 = .ok (.aload_n 0, 1) := by decide +kernel
theorem dX2_settle_53 : decode (mC M_X2_settle) 53 = .ok (.aload_n 1, 1) := by decide +kernel
theorem dX2_settle_54 : decode (mC M_X2_settle) 54 = .ok (.iload_n 2, 1) := by decide +kernel
theorem dX2_settle_55 : decode (mC M_X2_settle) 55 = .ok (.invokevirtual 62, 3) := by decide +kernel
theorem dX2_settle_58 : decode (mC M_X2_settle) 58 = .ok (.ineg, 1) := by decide +kernel
theorem dX2_settle_59 : decode (mC M_X2_settle) 59 = .ok (.ireturn, 1) := by decide +kernel
theorem dX2_settle_60 : decode (mC M_X2_settle) 60 = .ok (.aload_n 0, 1) := by decide +kernel
theorem dX2_settle_61 : decode (mC M_X2_settle) 61 = .ok (.aload_n 1, 1) := by decide +kernel
theorem dX2_settle_62 : decode (mC M_X2_settle) 62 = .ok (.invokevirtual 66, 3) := by decide +kernel
theorem dX2_settle_65 : decode (mC M_X2_settle) 65 = .ok (.ireturn, 1) := by decide +kernel
theorem dX2_isFoul_0 : decode (mC M_X2_isFoul) 0 = .ok (.aload_n 1, 1) := by decide +kernel
theorem dX2_isFoul_1 : decode (mC M_X2_isFoul) 1 = .ok (.getfield 70, 3) := by decide +kernel
theorem dX2_isFoul_4 : decode (mC M_X2_isFoul) 4 = .ok (.iconst 0, 1) := by decide +kernel
theorem dX2_isFoul_5 : decode (mC M_X2_isFoul) 5 = .ok (.baload, 1) := by decide +kernel
theorem dX2_isFoul_6 : decode (mC M_X2_isFoul) 6 = .ok (.ifCond .ne 26, 3) := by decide +kernel
theorem dX2_isFoul_9 : decode (mC M_X2_isFoul) 9 = .ok (.aload_n 1, 1) := by decide +kernel
theorem dX2_isFoul_10 : decode (mC M_X2_isFoul) 10 = .ok (.getfield 74, 3) := by decide +kernel
theorem dX2_isFoul_13 : decode (mC M_X2_isFoul) 13 = .ok (.iconst (-1), 1) := by decide +kernel
theorem dX2_isFoul_14 : decode (mC M_X2_isFoul) 14 = .ok (.if_icmp .eq 18, 3) := by decide +kernel
theorem dX2_isFoul_17 : decode (mC M_X2_isFoul) 17 = .ok (.aload_n 1, 1) := by decide +kernel
theorem dX2_isFoul_18 : decode (mC M_X2_isFoul) 18 = .ok (.getfield 74, 3) := by decide +kernel
theorem dX2_isFoul_21 : decode (mC M_X2_isFoul) 21 = .ok (.iload_n 2, 1) := by decide +kernel
theorem dX2_isFoul_22 : decode (mC M_X2_isFoul) 22 = .ok (.if_icmp .eq 14, 3) := by decide +kernel
theorem dX2_isFoul_25 : decode (mC M_X2_isFoul) 25 = .ok (.aload_n 0, 1) := by decide +kernel
theorem dX2_isFoul_26 : decode (mC M_X2_isFoul) 26 = .ok (.getfield 77, 3) := by decide +kernel
theorem dX2_isFoul_29 : decode (mC M_X2_isFoul) 29 = .ok (.ifCond .ne 7, 3) := by decide +kernel
theorem dX2_isFoul_32 : decode (mC M_X2_isFoul) 32 = .ok (.iconst 1, 1) := by decide +kernel
theorem dX2_isFoul_33 : decode (mC M_X2_isFoul) 33 = .ok (.goto 4, 3) := by decide +kernel
theorem dX2_isFoul_36 : decode (mC M_X2_isFoul) 36 = .ok (.iconst 0, 1) := by decide +kernel
theorem dX2_isFoul_37 : decode (mC M_X2_isFoul) 37 = .ok (.ireturn, 1) := by decide +kernel
theorem dX2_settleFair_0 : decode (mC M_X2_settleFair) 0 = .ok (.aload_n 1, 1) := by decide +kernel
theorem dX2_settleFair_1 : decode (mC M_X2_settleFair) 1 = .ok (.invokevirtual 80, 3) := by decide +kernel
theorem dX2_settleFair_4 : decode (mC M_X2_settleFair) 4 = .ok (.istore_n 2, 1) := by decide +kernel
theorem dX2_settleFair_5 : decode (mC M_X2_settleFair) 5 = .ok (.aload_n 0, 1) := by decide +kernel
theorem dX2_settleFair_6 : decode (mC M_X2_settleFair) 6 = .ok (.iconst 0, 1) := by decide +kernel
theorem dX2_settleFair_7 : decode (mC M_X2_settleFair) 7 = .ok (.putfield 77, 3) := by decide +kernel
theorem dX2_settleFair_10 : decode (mC M_X2_settleFair) 10 = .ok (.aload_n 0, 1) := by decide +kernel
theorem dX2_settleFair_11 : decode (mC M_X2_settleFair) 11 = .ok (.aload_n 0, 1) := by decide +kernel
theorem dX2_settleFair_12 : decode (mC M_X2_settleFair) 12 = .ok (.getfield 40, 3) := by decide +kernel
theorem dX2_settleFair_15 : decode (mC M_X2_settleFair) 15 = .ok (.iload_n 2, 1) := by decide +kernel
theorem dX2_settleFair_16 : decode (mC M_X2_settleFair) 16 = .ok (.invokevirtual 83, 3) := by decide +kernel
theorem dX2_settleFair_19 : decode (mC M_X2_settleFair) 19 = .ok (.aload_n 0, 1) := by decide +kernel
theorem dX2_settleFair_20 : decode (mC M_X2_settleFair) 20 = .ok (.invokevirtual 51, 3) := by decide +kernel
theorem dX2_settleFair_23 : decode (mC M_X2_settleFair) 23 = .ok (.iconst (-1), 1) := by decide +kernel
theorem dX2_settleFair_24 : decode (mC M_X2_settleFair) 24 = .ok (.if_icmp .ne 11, 3) := by decide +kernel
theorem dX2_settleFair_27 : decode (mC M_X2_settleFair) 27 = .ok (.aload_n 0, 1) := by decide +kernel
theorem dX2_settleFair_28 : decode (mC M_X2_settleFair) 28 = .ok (.aload_n 0, 1) := by decide +kernel
theorem dX2_settleFair_29 : decode (mC M_X2_settleFair) 29 = .ok (.invokevirtual 87, 3) := by decide +kernel
theorem dX2_settleFair_32 : decode (mC M_X2_settleFair) 32 = .ok (.putfield 23, 3) := by decide +kernel
theorem dX2_settleFair_35 : decode (mC M_X2_settleFair) 35 = .ok (.iload_n 2, 1) := by decide +kernel
theorem dX2_settleFair_36 : decode (mC M_X2_settleFair) 36 = .ok (.ifCond .ne 19, 3) := by decide +kernel
theorem dX2_settleFair_39 : decode (mC M_X2_settleFair) 39 = .ok (.aload_n 0, 1) := by decide +kernel
theorem dX2_settleFair_40 : decode (mC M_X2_settleFair) 40 = .ok (.aload_n 0, 1) := by decide +kernel
theorem dX2_settleFair_41 : decode (mC M_X2_settleFair) 41 = .ok (.getfield 40, 3) := by decide +kernel
theorem dX2_settleFair_44 : decode (mC M_X2_settleFair) 44 = .ok (.ifCond .ne 7, 3) := by decide +kernel
theorem dX2_settleFair_47 : decode (mC M_X2_settleFair) 47 = .ok (.iconst 1, 1) := by decide +kernel
theorem dX2_settleFair_48 : decode (mC M_X2_settleFair) 48 = .ok (.goto 4, 3) := by decide +kernel
theorem dX2_settleFair_51 : decode (mC M_X2_settleFair) 51 = .ok (.iconst 0, 1) := by decide +kernel
theorem dX2_settleFair_52 : decode (mC M_X2_settleFair) 52 = .ok (.putfield 40, 3) := by decide +kernel
theorem dX2_settleFair_55 : decode (mC M_X2_settleFair) 55 = .ok (.iload_n 2, 1) := by decide +kernel
theorem dX2_settleFair_56 : decode (mC M_X2_settleFair) 56 = .ok (.ireturn, 1) := by decide +kernel
theorem dX2_settleFoul_0 : decode (mC M_X2_settleFoul) 0 = .ok (.iconst 4, 1) := by decide +kernel
theorem dX2_settleFoul_1 : decode (mC M_X2_settleFoul) 1 = .ok (.iload_n 2, 1) := by decide +kernel
theorem dX2_settleFoul_2 : decode (mC M_X2_settleFoul) 2 = .ok (.invokestatic 90, 3) := by decide +kernel
theorem dX2_settleFoul_5 : decode (mC M_X2_settleFoul) 5 = .ok (.istore_n 3, 1) := by decide +kernel
theorem dX2_settleFoul_6 : decode (mC M_X2_settleFoul) 6 = .ok (.aload_n 0, 1) := by decide +kernel
theorem dX2_settleFoul_7 : decode (mC M_X2_settleFoul) 7 = .ok (.aload_n 0, 1) := by decide +kernel
theorem dX2_settleFoul_8 : decode (mC M_X2_settleFoul) 8 = .ok (.getfield 40, 3) := by decide +kernel
theorem dX2_settleFoul_11 : decode (mC M_X2_settleFoul) 11 = .ok (.ifCond .ne 7, 3) := by decide +kernel
theorem dX2_settleFoul_14 : decode (mC M_X2_settleFoul) 14 = .ok (.iconst 1, 1) := by decide +kernel
theorem dX2_settleFoul_15 : decode (mC M_X2_settleFoul) 15 = .ok (.goto 4, 3) := by decide +kernel
theorem dX2_settleFoul_18 : decode (mC M_X2_settleFoul) 18 = .ok (.iconst 0, 1) := by decide +kernel
theorem dX2_settleFoul_19 : decode (mC M_X2_settleFoul) 19 = .ok (.putfield 40, 3) := by decide +kernel
theorem dX2_settleFoul_22 : decode (mC M_X2_settleFoul) 22 = .ok (.aload_n 0, 1) := by decide +kernel
theorem dX2_settleFoul_23 : decode (mC M_X2_settleFoul) 23 = .ok (.aload_n 0, 1) := by decide +kernel
theorem dX2_settleFoul_24 : decode (mC M_X2_settleFoul) 24 = .ok (.getfield 40, 3) := by decide +kernel
theorem dX2_settleFoul_27 : decode (mC M_X2_settleFoul) 27 = .ok (.iload_n 3, 1) := by decide +kernel
theorem dX2_settleFoul_28 : decode (mC M_X2_settleFoul) 28 = .ok (.invokevirtual 83, 3) := by decide +kernel
theorem dX2_settleFoul_31 : decode (mC M_X2_settleFoul) 31 = .ok (.iconst 0, 1) := by decide +kernel
theorem dX2_settleFoul_32 : decode (mC M_X2_settleFoul) 32 = .ok (.istore 4, 2) := by decide +kernel
theorem dX2_settleFoul_34 : decode (mC M_X2_settleFoul) 34 = .ok (.iload 4, 2) := by decide +kernel
theorem dX2_settleFoul_36 : decode (mC M_X2_settleFoul) 36 = .ok (.aload_n 0, 1) := by decide +kernel
theorem dX2_settleFoul_37 : decode (mC M_X2_settleFoul) 37 = .ok (.getfield 18, 3) := by decide +kernel
theorem dX2_settleFoul_40 : decode (mC M_X2_settleFoul) 40 = .ok (.arraylength, 1) := by decide +kernel
theorem dX2_settleFoul_41 : decode (mC M_X2_settleFoul) 41 = .ok (.if_icmp .ge 35, 3) := by decide +kernel
theorem dX2_settleFoul_44 : decode (mC M_X2_settleFoul) 44 = .ok (.iload 4, 2) := by decide +kernel
theorem dX2_settleFoul_46 : decode (mC M_X2_settleFoul) 46 = .ok (.aload_n 1, 1) := by decide +kernel
theorem dX2_settleFoul_47 : decode (mC M_X2_settleFoul) 47 = .ok (.getfield 70, 3) := by decide +kernel
theorem dX2_settleFoul_50 : decode (mC M_X2_settleFoul) 50 = .ok (.arraylength, 1) := by decide +kernel
theorem dX2_settleFoul_51 : decode (mC M_X2_settleFoul) 51 = .ok (.if_icmp .ge 25, 3) := by decide +kernel
theorem dX2_settleFoul_54 : decode (mC M_X2_settleFoul) 54 = .ok (.aload_n 1, 1) := by decide +kernel
theorem dX2_settleFoul_55 : decode (mC M_X2_settleFoul) 55 = .ok (.getfield 70, 3) := by decide +kernel
theorem dX2_settleFoul_58 : decode (mC M_X2_settleFoul) 58 = .ok (.iload 4, 2) := by decide +kernel
theorem dX2_settleFoul_60 : decode (mC M_X2_settleFoul) 60 = .ok (.baload, 1) := by decide +kernel
theorem dX2_settleFoul_61 : decode (mC M_X2_settleFoul) 61 = .ok (.ifCond .eq 9, 3) := by decide +kernel
theorem dX2_settleFoul_64 : decode (mC M_X2_settleFoul) 64 = .ok (.aload_n 0, 1) := by decide +kernel
theorem dX2_settleFoul_65 : decode (mC M_X2_settleFoul) 65 = .ok (.iload 4, 2) := by decide +kernel
theorem dX2_settleFoul_67 : decode (mC M_X2_settleFoul) 67 = .ok (.invokevirtual 96, 3) := by decide +kernel
theorem dX2_settleFoul_70 : decode (mC M_X2_settleFoul) 70 = .ok (.iinc 4 1, 3) := by decide +kernel
theorem dX2_settleFoul_73 : decode (mC M_X2_settleFoul) 73 = .ok (.goto (-39), 3) := by decide +kernel
theorem dX2_settleFoul_76 : decode (mC M_X2_settleFoul) 76 = .ok (.aload_n 0, 1) := by decide +kernel
theorem dX2_settleFoul_77 : decode (mC M_X2_settleFoul) 77 = .ok (.aload_n 0, 1) := by decide +kernel
theorem dX2_settleFoul_78 : decode (mC M_X2_settleFoul) 78 = .ok (.iload_n 2, 1) := by decide +kernel
theorem dX2_settleFoul_79 : decode (mC M_X2_settleFoul) 79 = .ok (.invokevirtual 100, 3) := by decide +kernel
theorem dX2_settleFoul_82 : decode (mC M_X2_settleFoul) 82 = .ok (.putfield 77, 3) := by decide +kernel
theorem dX2_settleFoul_85 : decode (mC M_X2_settleFoul) 85 = .ok (.iload_n 3, 1) := by decide +kernel
theorem dX2_settleFoul_86 : decode (mC M_X2_settleFoul) 86 = .ok (.ireturn, 1) := by decide +kernel
theorem dX2_addPoints_0 : decode (mC M_X2_addPoints) 0 = .ok (.iload_n 1, 1) := by decide +kernel
theorem dX2_addPoints_1 : decode (mC M_X2_addPoints) 1 = .ok (.ifCond .eq 16, 3) := by decide +kernel
theorem dX2_addPoints_4 : decode (mC M_X2_addPoints) 4 = .ok (.aload_n 0, 1) := by decide +kernel
theorem dX2_addPoints_5 : decode (mC M_X2_addPoints) 5 = .ok (.dup, 1) := by decide +kernel
theorem dX2_addPoints_6 : decode (mC M_X2_addPoints) 6 = .ok (.getfield 104, 3) := by decide +kernel
theorem dX2_addPoints_9 : decode (mC M_X2_addPoints) 9 = .ok (.iload_n 2, 1) := by decide +kernel
theorem dX2_addPoints_10 : decode (mC M_X2_addPoints) 10 = .ok (.iadd, 1) := by decide +kernel
theorem dX2_addPoints_11 : decode (mC M_X2_addPoints) 11 = .ok (.putfield 104, 3) := by decide +kernel
theorem dX2_addPoints_14 : decode (mC M_X2_addPoints) 14 = .ok (.goto 13, 3) := by decide +kernel
theorem dX2_addPoints_17 : decode (mC M_X2_addPoints) 17 = .ok (.aload_n 0, 1) := by decide +kernel
theorem dX2_addPoints_18 : decode (mC M_X2_addPoints) 18 = .ok (.dup, 1) := by decide +kernel
theorem dX2_addPoints_19 : decode (mC M_X2_addPoints) 19 = .ok (.getfield 107, 3) := by decide +kernel
theorem dX2_addPoints_22 : decode (mC M_X2_addPoints) 22 = .ok (.iload_n 2, 1) := by decide +kernel
theorem dX2_addPoints_23 : decode (mC M_X2_addPoints) 23 = .ok (.iadd, 1) := by decide +kernel
theorem dX2_addPoints_24 : decode (mC M_X2_addPoints) 24 = .ok (.putfield 107, 3) := by decide +kernel
theorem dX2_addPoints_27 : decode (mC M_X2_addPoints) 27 = .ok (.return_, 1) := by decide +kernel
theorem dX2_leader_0 : decode (mC M_X2_leader) 0 = .ok (.aload_n 0, 1) := by decide +kernel
theorem dX2_leader_1 : decode (mC M_X2_leader) 1 = .ok (.getfield 107, 3) := by decide +kernel
theorem dX2_leader_4 : decode (mC M_X2_leader) 4 = .ok (.aload_n 0, 1) := by decide +kernel
theorem dX2_leader_5 : decode (mC M_X2_leader) 5 = .ok (.getfield 104, 3) := by decide +kernel
theorem dX2_leader_8 : decode (mC M_X2_leader) 8 = .ok (.if_icmp .ne 8, 3) := by decide +kernel
theorem dX2_leader_11 : decode (mC M_X2_leader) 11 = .ok (.aload_n 0, 1) := by decide +kernel
theorem dX2_leader_12 : decode (mC M_X2_leader) 12 = .ok (.invokevirtual 110, 3) := by decide +kernel
theorem dX2_leader_15 : decode (mC M_X2_leader) 15 = .ok (.ireturn, 1) := by decide +kernel
theorem dX2_leader_16 : decode (mC M_X2_leader) 16 = .ok (.aload_n 0, 1) := by decide +kernel
theorem dX2_leader_17 : decode (mC M_X2_leader) 17 = .ok (.getfield 107, 3) := by decide +kernel
theorem dX2_leader_20 : decode (mC M_X2_leader) 20 = .ok (.aload_n 0, 1) := by decide +kernel
theorem dX2_leader_21 : decode (mC M_X2_leader) 21 = .ok (.getfield 104, 3) := by decide +kernel
theorem dX2_leader_24 : decode (mC M_X2_leader) 24 = .ok (.if_icmp .le 10, 3) := by decide +kernel
theorem dX2_leader_27 : decode (mC M_X2_leader) 27 = .ok (.aload_n 0, 1) := by decide +kernel
theorem dX2_leader_28 : decode (mC M_X2_leader) 28 = .ok (.getfield 30, 3) := by decide +kernel
theorem dX2_leader_31 : decode (mC M_X2_leader) 31 = .ok (.goto 7, 3) := by decide +kernel
theorem dX2_leader_34 : decode (mC M_X2_leader) 34 = .ok (.aload_n 0, 1) := by decide +kernel
theorem dX2_leader_35 : decode (mC M_X2_leader) 35 = .ok (.getfield 33, 3) := by decide +kernel
theorem dX2_leader_38 : decode (mC M_X2_leader) 38 = .ok (.ireturn, 1) := by decide +kernel
theorem dX2_comeBack_0 : decode (mC M_X2_comeBack) 0 = .ok (.iload_n 1, 1) := by decide +kernel
theorem dX2_comeBack_1 : decode (mC M_X2_comeBack) 1 = .ok (.ifCond .lt 20, 3) := by decide +kernel
theorem dX2_comeBack_4 : decode (mC M_X2_comeBack) 4 = .ok (.iload_n 1, 1) := by decide +kernel
theorem dX2_comeBack_5 : decode (mC M_X2_comeBack) 5 = .ok (.aload_n 0, 1) := by decide +kernel
theorem dX2_comeBack_6 : decode (mC M_X2_comeBack) 6 = .ok (.getfield 18, 3) := by decide +kernel
theorem dX2_comeBack_9 : decode (mC M_X2_comeBack) 9 = .ok (.arraylength, 1) := by decide +kernel
theorem dX2_comeBack_10 : decode (mC M_X2_comeBack) 10 = .ok (.if_icmp .ge 11, 3) := by decide +kernel
theorem dX2_comeBack_13 : decode (mC M_X2_comeBack) 13 = .ok (.iload_n 1, 1) := by decide +kernel
theorem dX2_comeBack_14 : decode (mC M_X2_comeBack) 14 = .ok (.getstatic 9, 3) := by decide +kernel
theorem dX2_comeBack_17 : decode (mC M_X2_comeBack) 17 = .ok (.arraylength, 1) := by decide +kernel
theorem dX2_comeBack_18 : decode (mC M_X2_comeBack) 18 = .ok (.if_icmp .lt 4, 3) := by decide +kernel
theorem dX2_comeBack_21 : decode (mC M_X2_comeBack) 21 = .ok (.return_, 1) := by decide +kernel
theorem dX2_comeBack_22 : decode (mC M_X2_comeBack) 22 = .ok (.aload_n 0, 1) := by decide +kernel
theorem dX2_comeBack_23 : decode (mC M_X2_comeBack) 23 = .ok (.getfield 18, 3) := by decide +kernel
theorem dX2_comeBack_26 : decode (mC M_X2_comeBack) 26 = .ok (.iload_n 1, 1) := by decide +kernel
theorem dX2_comeBack_27 : decode (mC M_X2_comeBack) 27 = .ok (.aload_n 0, 1) := by decide +kernel
theorem dX2_comeBack_28 : decode (mC M_X2_comeBack) 28 = .ok (.getstatic 9, 3) := by decide +kernel
theorem dX2_comeBack_31 : decode (mC M_X2_comeBack) 31 = .ok (.iload_n 1, 1) := by decide +kernel
theorem dX2_comeBack_32 : decode (mC M_X2_comeBack) 32 = .ok (.iaload, 1) := by decide +kernel
theorem dX2_comeBack_33 : decode (mC M_X2_comeBack) 33 = .ok (.invokevirtual 113, 3) := by decide +kernel
theorem dX2_comeBack_36 : decode (mC M_X2_comeBack) 36 = .ok (.iconst (-1), 1) := by decide +kernel
theorem dX2_comeBack_37 : decode (mC M_X2_comeBack) 37 = .ok (.if_icmp .ne 11, 3) := by decide +kernel
theorem dX2_comeBack_40 : decode (mC M_X2_comeBack) 40 = .ok (.getstatic 9, 3) := by decide +kernel
theorem dX2_comeBack_43 : decode (mC M_X2_comeBack) 43 = .ok (.iload_n 1, 1) := by decide +kernel
theorem dX2_comeBack_44 : decode (mC M_X2_comeBack) 44 = .ok (.iaload, 1) := by decide +kernel
theorem dX2_comeBack_45 : decode (mC M_X2_comeBack) 45 = .ok (.goto 7, 3) := by decide +kernel
theorem dX2_comeBack_48 : decode (mC M_X2_comeBack) 48 = .ok (.aload_n 0, 1) := by decide +kernel
theorem dX2_comeBack_49 : decode (mC M_X2_comeBack) 49 = .ok (.invokevirtual 117, 3) := by decide +kernel
theorem dX2_comeBack_52 : decode (mC M_X2_comeBack) 52 = .ok (.iastore, 1) := by decide +kernel
theorem dX2_comeBack_53 : decode (mC M_X2_comeBack) 53 = .ok (.return_, 1) := by decide +kernel
theorem dX2_lowestEmptyCell_0 : decode (mC M_X2_lowestEmptyCell) 0 = .ok (.iconst 0, 1) := by decide +kernel
theorem dX2_lowestEmptyCell_1 : decode (mC M_X2_lowestEmptyCell) 1 = .ok (.istore_n 1, 1) := by decide +kernel
theorem dX2_lowestEmptyCell_2 : decode (mC M_X2_lowestEmptyCell) 2 = .ok (.iload_n 1, 1) := by decide +kernel
theorem dX2_lowestEmptyCell_3 : decode (mC M_X2_lowestEmptyCell) 3 = .ok (.sipush 128, 3) := by decide +kernel
theorem dX2_lowestEmptyCell_6 : decode (mC M_X2_lowestEmptyCell) 6 = .ok (.if_icmp .ge 27, 3) := by decide +kernel
theorem dX2_lowestEmptyCell_9 : decode (mC M_X2_lowestEmptyCell) 9 = .ok (.iload_n 1, 1) := by decide +kernel
theorem dX2_lowestEmptyCell_10 : decode (mC M_X2_lowestEmptyCell) 10 = .ok (.invokestatic 120, 3) := by decide +kernel
theorem dX2_lowestEmptyCell_13 : decode (mC M_X2_lowestEmptyCell) 13 = .ok (.ifCond .ne 14, 3) := by decide +kernel
theorem dX2_lowestEmptyCell_16 : decode (mC M_X2_lowestEmptyCell) 16 = .ok (.aload_n 0, 1) := by decide +kernel
theorem dX2_lowestEmptyCell_17 : decode (mC M_X2_lowestEmptyCell) 17 = .ok (.iload_n 1, 1) := by decide +kernel
theorem dX2_lowestEmptyCell_18 : decode (mC M_X2_lowestEmptyCell) 18 = .ok (.invokevirtual 113, 3) := by decide +kernel
theorem dX2_lowestEmptyCell_21 : decode (mC M_X2_lowestEmptyCell) 21 = .ok (.iconst (-1), 1) := by decide +kernel
theorem dX2_lowestEmptyCell_22 : decode (mC M_X2_lowestEmptyCell) 22 = .ok (.if_icmp .ne 5, 3) := by decide +kernel
theorem dX2_lowestEmptyCell_25 : decode (mC M_X2_lowestEmptyCell) 25 = .ok (.iload_n 1, 1) := by decide +kernel
theorem dX2_lowestEmptyCell_26 : decode (mC M_X2_lowestEmptyCell) 26 = .ok (.ireturn, 1) := by decide +kernel
theorem dX2_lowestEmptyCell_27 : decode (mC M_X2_lowestEmptyCell) 27 = .ok (.iinc 1 1, 3) := by decide +kernel
theorem dX2_lowestEmptyCell_30 : decode (mC M_X2_lowestEmptyCell) 30 = .ok (.goto (-28), 3) := by decide +kernel
theorem dX2_lowestEmptyCell_33 : decode (mC M_X2_lowestEmptyCell) 33 = .ok (.iconst (-1), 1) := by decide +kernel
theorem dX2_lowestEmptyCell_34 : decode (mC M_X2_lowestEmptyCell) 34 = .ok (.ireturn, 1) := by decide +kernel
theorem dX2_ballIn_0 : decode (mC M_X2_ballIn) 0 = .ok (.iconst 0, 1) := by decide +kernel
theorem dX2_ballIn_1 : decode (mC M_X2_ballIn) 1 = .ok (.istore_n 2, 1) := by decide +kernel
theorem dX2_ballIn_2 : decode (mC M_X2_ballIn) 2 = .ok (.iload_n 2, 1) := by decide +kernel
theorem dX2_ballIn_3 : decode (mC M_X2_ballIn) 3 = .ok (.aload_n 0, 1) := by decide +kernel
theorem dX2_ballIn_4 : decode (mC M_X2_ballIn) 4 = .ok (.getfield 18, 3) := by decide +kernel
theorem dX2_ballIn_7 : decode (mC M_X2_ballIn) 7 = .ok (.arraylength, 1) := by decide +kernel
theorem dX2_ballIn_8 : decode (mC M_X2_ballIn) 8 = .ok (.if_icmp .ge 21, 3) := by decide +kernel
theorem dX2_ballIn_11 : decode (mC M_X2_ballIn) 11 = .ok (.aload_n 0, 1) := by decide +kernel
theorem dX2_ballIn_12 : decode (mC M_X2_ballIn) 12 = .ok (.getfield 18, 3) := by decide +kernel
theorem dX2_ballIn_15 : decode (mC M_X2_ballIn) 15 = .ok (.iload_n 2, 1) := by decide +kernel
theorem dX2_ballIn_16 : decode (mC M_X2_ballIn) 16 = .ok (.iaload, 1) := by decide +kernel
theorem dX2_ballIn_17 : decode (mC M_X2_ballIn) 17 = .ok (.iload_n 1, 1) := by decide +kernel
theorem dX2_ballIn_18 : decode (mC M_X2_ballIn) 18 = .ok (.if_icmp .ne 5, 3) := by decide +kernel
theorem dX2_ballIn_21 : decode (mC M_X2_ballIn) 21 = .ok (.iload_n 2, 1) := by decide +kernel
theorem dX2_ballIn_22 : decode (mC M_X2_ballIn) 22 = .ok (.ireturn, 1) := by decide +kernel
theorem dX2_ballIn_23 : decode (mC M_X2_ballIn) 23 = .ok (.iinc 2 1, 3) := by decide +kernel
theorem dX2_ballIn_26 : decode (mC M_X2_ballIn) 26 = .ok (.goto (-24), 3) := by decide +kernel
theorem dX2_ballIn_29 : decode (mC M_X2_ballIn) 29 = .ok (.iconst (-1), 1) := by decide +kernel
theorem dX2_ballIn_30 : decode (mC M_X2_ballIn) 30 = .ok (.ireturn, 1) := by decide +kernel
theorem dX2_isHidden_0 : decode (mC M_X2_isHidden) 0 = .ok (.iconst 0, 1) := by decide +kernel
theorem dX2_isHidden_1 : decode (mC M_X2_isHidden) 1 = .ok (.istore_n 2, 1) := by decide +kernel
theorem dX2_isHidden_2 : decode (mC M_X2_isHidden) 2 = .ok (.iload_n 2, 1) := by decide +kernel
theorem dX2_isHidden_3 : decode (mC M_X2_isHidden) 3 = .ok (.bipush 8, 2) := by decide +kernel
theorem dX2_isHidden_5 : decode (mC M_X2_isHidden) 5 = .ok (.if_icmp .ge 20, 3) := by decide +kernel
theorem dX2_isHidden_8 : decode (mC M_X2_isHidden) 8 = .ok (.aload_n 0, 1) := by decide +kernel
theorem dX2_isHidden_9 : decode (mC M_X2_isHidden) 9 = .ok (.iload_n 2, 1) := by decide +kernel
theorem dX2_isHidden_10 : decode (mC M_X2_isHidden) 10 = .ok (.invokevirtual 123, 3) := by decide +kernel
theorem dX2_isHidden_13 : decode (mC M_X2_isHidden) 13 = .ok (.iload_n 1, 1) := by decide +kernel
theorem dX2_isHidden_14 : decode (mC M_X2_isHidden) 14 = .ok (.if_icmp .ne 5, 3) := by decide +kernel
theorem dX2_isHidden_17 : decode (mC M_X2_isHidden) 17 = .ok (.iconst 0, 1) := by decide +kernel
theorem dX2_isHidden_18 : decode (mC M_X2_isHidden) 18 = .ok (.ireturn, 1) := by decide +kernel
theorem dX2_isHidden_19 : decode (mC M_X2_isHidden) 19 = .ok (.iinc 2 1, 3) := by decide +kernel
theorem dX2_isHidden_22 : decode (mC M_X2_isHidden) 22 = .ok (.goto (-20), 3) := by decide +kernel
theorem dX2_isHidden_25 : decode (mC M_X2_isHidden) 25 = .ok (.iconst 1, 1) := by decide +kernel
theorem dX2_isHidden_26 : decode (mC M_X2_isHidden) 26 = .ok (.ireturn, 1) := by decide +kernel
theorem dX2_firstBallFromWhite_0 : decode (mC M_X2_firstBallFromWhite) 0 = .ok (.aload_n 0, 1) := by decide +kernel
theorem dX2_firstBallFromWhite_1 : decode (mC M_X2_firstBallFromWhite) 1 = .ok (.getfield 18, 3) := by decide +kernel
theorem dX2_firstBallFromWhite_4 : decode (mC M_X2_firstBallFromWhite) 4 = .ok (.iconst 0, 1) := by decide +kernel
theorem dX2_firstBallFromWhite_5 : decode (mC M_X2_firstBallFromWhite) 5 = .ok (.iaload, 1) := by decide +kernel
theorem dX2_firstBallFromWhite_6 : decode (mC M_X2_firstBallFromWhite) 6 = .ok (.istore_n 2, 1) := by decide +kernel
theorem dX2_firstBallFromWhite_7 : decode (mC M_X2_firstBallFromWhite) 7 = .ok (.iconst 0, 1) := by decide +kernel
theorem dX2_firstBallFromWhite_8 : decode (mC M_X2_firstBallFromWhite) 8 = .ok (.istore_n 3, 1) := by decide +kernel
theorem dX2_firstBallFromWhite_9 : decode (mC M_X2_firstBallFromWhite) 9 = .ok (.iload_n 3, 1) := by decide +kernel
theorem dX2_firstBallFromWhite_10 : decode (mC M_X2_firstBallFromWhite) 10 = .ok (.bipush 16, 2) := by decide +kernel
theorem dX2_firstBallFromWhite_12 : decode (mC M_X2_firstBallFromWhite) 12 = .ok (.if_icmp .ge 38, 3) := by decide +kernel
theorem dX2_firstBallFromWhite_15 : decode (mC M_X2_firstBallFromWhite) 15 = .ok (.iload_n 2, 1) := by decide +kernel
theorem dX2_firstBallFromWhite_16 : decode (mC M_X2_firstBallFromWhite) 16 = .ok (.iload_n 1, 1) := by decide +kernel
theorem dX2_firstBallFromWhite_17 : decode (mC M_X2_firstBallFromWhite) 17 = .ok (.invokestatic 126, 3) := by decide +kernel
theorem dX2_firstBallFromWhite_20 : decode (mC M_X2_firstBallFromWhite) 20 = .ok (.istore_n 2, 1) := by decide +kernel
theorem dX2_firstBallFromWhite_21 : decode (mC M_X2_firstBallFromWhite) 21 = .ok (.iload_n 2, 1) := by decide +kernel
theorem dX2_firstBallFromWhite_22 : decode (mC M_X2_firstBallFromWhite) 22 = .ok (.iconst (-1), 1) := by decide +kernel
theorem dX2_firstBallFromWhite_23 : decode (mC M_X2_firstBallFromWhite) 23 = .ok (.if_icmp .ne 5, 3) := by decide +kernel
theorem dX2_firstBallFromWhite_26 : decode (mC M_X2_firstBallFromWhite) 26 = .ok (.iconst (-1), 1) := by decide +kernel
theorem dX2_firstBallFromWhite_27 : decode (mC M_X2_firstBallFromWhite) 27 = .ok (.ireturn, 1) := by decide +kernel
theorem dX2_firstBallFromWhite_28 : decode (mC M_X2_firstBallFromWhite) 28 = .ok (.aload_n 0, 1) := by decide +kernel
theorem dX2_firstBallFromWhite_29 : decode (mC M_X2_firstBallFromWhite) 29 = .ok (.iload_n 2, 1) := by decide +kernel
theorem dX2_firstBallFromWhite_30 : decode (mC M_X2_firstBallFromWhite) 30 = .ok (.invokevirtual 113, 3) := by decide +kernel
theorem dX2_firstBallFromWhite_33 : decode (mC M_X2_firstBallFromWhite) 33 = .ok (.istore 4, 2) := by decide +kernel
theorem dX2_firstBallFromWhite_35 : decode (mC M_X2_firstBallFromWhite) 35 = .ok (.iload 4, 2) := by decide +kernel
theorem dX2_firstBallFromWhite_37 : decode (mC M_X2_firstBallFromWhite) 37 = .ok (.iconst (-1), 1) := by decide +kernel
theorem dX2_firstBallFromWhite_38 : decode (mC M_X2_firstBallFromWhite) 38 = .ok (.if_icmp .eq 6, 3) := by decide +kernel
theorem dX2_firstBallFromWhite_41 : decode (mC M_X2_firstBallFromWhite) 41 = .ok (.iload 4, 2) := by decide +kernel
theorem dX2_firstBallFromWhite_43 : decode (mC M_X2_firstBallFromWhite) 43 = .ok (.ireturn, 1) := by decide +kernel
theorem dX2_firstBallFromWhite_44 : decode (mC M_X2_firstBallFromWhite) 44 = .ok (.iinc 3 1, 3) := by decide +kernel
theorem dX2_firstBallFromWhite_47 : decode (mC M_X2_firstBallFromWhite) 47 = .ok (.goto (-38), 3) := by decide +kernel
theorem dX2_firstBallFromWhite_50 : decode (mC M_X2_firstBallFromWhite) 50 = .ok (.iconst (-1), 1) := by decide +kernel
theorem dX2_firstBallFromWhite_51 : decode (mC M_X2_firstBallFromWhite) 51 = .ok (.ireturn, 1) := by decide +kernel
theorem dX3_init_0 : decode (mC M_X3_init) 0 = .ok (.aload_n 0, 1) := by decide +kernel
theorem dX3_init_1 : decode (mC M_X3_init) 1 = .ok (.invokespecial 3, 3) := by decide +kernel
theorem dX3_init_4 : decode (mC M_X3_init) 4 = .ok (.aload_n 0, 1) := by decide +kernel
theorem dX3_init_5 : decode (mC M_X3_init) 5 = .ok (.iconst (-1), 1) := by decide +kernel
theorem dX3_init_6 : decode (mC M_X3_init) 6 = .ok (.putfield 9, 3) := by decide +kernel
theorem dX3_init_9 : decode (mC M_X3_init) 9 = .ok (.aload_n 0, 1) := by decide +kernel
theorem dX3_init_10 : decode (mC M_X3_init) 10 = .ok (.iload_n 1, 1) := by decide +kernel
theorem dX3_init_11 : decode (mC M_X3_init) 11 = .ok (.putfield 15, 3) := by decide +kernel
theorem dX3_init_14 : decode (mC M_X3_init) 14 = .ok (.aload_n 0, 1) := by decide +kernel
theorem dX3_init_15 : decode (mC M_X3_init) 15 = .ok (.iload_n 2, 1) := by decide +kernel
theorem dX3_init_16 : decode (mC M_X3_init) 16 = .ok (.putfield 18, 3) := by decide +kernel
theorem dX3_init_19 : decode (mC M_X3_init) 19 = .ok (.return_, 1) := by decide +kernel
theorem dX3_close_0 : decode (mC M_X3_close) 0 = .ok (.aload_n 0, 1) := by decide +kernel
theorem dX3_close_1 : decode (mC M_X3_close) 1 = .ok (.iload_n 1, 1) := by decide +kernel
theorem dX3_close_2 : decode (mC M_X3_close) 2 = .ok (.putfield 9, 3) := by decide +kernel
theorem dX3_close_5 : decode (mC M_X3_close) 5 = .ok (.return_, 1) := by decide +kernel
theorem dX3_isClosed_0 : decode (mC M_X3_isClosed) 0 = .ok (.aload_n 0, 1) := by decide +kernel
theorem dX3_isClosed_1 : decode (mC M_X3_isClosed) 1 = .ok (.getfield 9, 3) := by decide +kernel
theorem dX3_isClosed_4 : decode (mC M_X3_isClosed) 4 = .ok (.iconst (-1), 1) := by decide +kernel
theorem dX3_isClosed_5 : decode (mC M_X3_isClosed) 5 = .ok (.if_icmp .eq 7, 3) := by decide +kernel
theorem dX3_isClosed_8 : decode (mC M_X3_isClosed) 8 = .ok (.iconst 1, 1) := by decide +kernel
theorem dX3_isClosed_9 : decode (mC M_X3_isClosed) 9 = .ok (.goto 4, 3) := by decide +kernel
theorem dX3_isClosed_12 : decode (mC M_X3_isClosed) 12 = .ok (.iconst 0, 1) := by decide +kernel
theorem dX3_isClosed_13 : decode (mC M_X3_isClosed) 13 = .ok (.ireturn, 1) := by decide +kernel
theorem dX3_coinsKept_0 : decode (mC M_X3_coinsKept) 0 = .ok (.aload_n 0, 1) := by decide +kernel
theorem dX3_coinsKept_1 : decode (mC M_X3_coinsKept) 1 = .ok (.getfield 9, 3) := by decide +kernel
theorem dX3_coinsKept_4 : decode (mC M_X3_coinsKept) 4 = .ok (.aload_n 0, 1) := by decide +kernel
theorem dX3_coinsKept_5 : decode (mC M_X3_coinsKept) 5 = .ok (.getfield 18, 3) := by decide +kernel
theorem dX3_coinsKept_8 : decode (mC M_X3_coinsKept) 8 = .ok (.isub, 1) := by decide +kernel
theorem dX3_coinsKept_9 : decode (mC M_X3_coinsKept) 9 = .ok (.iconst 5, 1) := by decide +kernel
theorem dX3_coinsKept_10 : decode (mC M_X3_coinsKept) 10 = .ok (.idiv, 1) := by decide +kernel
theorem dX3_coinsKept_11 : decode (mC M_X3_coinsKept) 11 = .ok (.ireturn, 1) := by decide +kernel
theorem dX4_init_0 : decode (mC M_X4_init) 0 = .ok (.aload_n 0, 1) := by decide +kernel
theorem dX4_init_1 : decode (mC M_X4_init) 1 = .ok (.invokespecial 3, 3) := by decide +kernel
theorem dX4_init_4 : decode (mC M_X4_init) 4 = .ok (.return_, 1) := by decide +kernel
theorem dX4_lay_0 : decode (mC M_X4_lay) 0 = .ok (.return_, 1) := by decide +kernel
theorem dX4_ballBeside_0 : decode (mC M_X4_ballBeside) 0 = .ok (.iconst 0, 1) := by decide +kernel
theorem dX4_ballBeside_1 : decode (mC M_X4_ballBeside) 1 = .ok (.istore_n 3, 1) := by decide +kernel
theorem dX4_ballBeside_2 : decode (mC M_X4_ballBeside) 2 = .ok (.iload_n 3, 1) := by decide +kernel
theorem dX4_ballBeside_3 : decode (mC M_X4_ballBeside) 3 = .ok (.bipush 8, 2) := by decide +kernel
theorem dX4_ballBeside_5 : decode (mC M_X4_ballBeside) 5 = .ok (.if_icmp .ge 26, 3) := by decide +kernel
theorem dX4_ballBeside_8 : decode (mC M_X4_ballBeside) 8 = .ok (.iload_n 3, 1) := by decide +kernel
theorem dX4_ballBeside_9 : decode (mC M_X4_ballBeside) 9 = .ok (.iload_n 1, 1) := by decide +kernel
theorem dX4_ballBeside_10 : decode (mC M_X4_ballBeside) 10 = .ok (.if_icmp .eq 15, 3) := by decide +kernel
theorem dX4_ballBeside_13 : decode (mC M_X4_ballBeside) 13 = .ok (.aload_n 0, 1) := by decide +kernel
theorem dX4_ballBeside_14 : decode (mC M_X4_ballBeside) 14 = .ok (.iload_n 1, 1) := by decide +kernel
theorem dX4_ballBeside_15 : decode (mC M_X4_ballBeside) 15 = .ok (.iload_n 3, 1) := by decide +kernel
theorem dX4_ballBeside_16 : decode (mC M_X4_ballBeside) 16 = .ok (.iload_n 2, 1) := by decide +kernel
theorem dX4_ballBeside_17 : decode (mC M_X4_ballBeside) 17 = .ok (.invokevirtual 9, 3) := by decide +kernel
theorem dX4_ballBeside_20 : decode (mC M_X4_ballBeside) 20 = .ok (.ifCond .eq 5, 3) := by decide +kernel
theorem dX4_ballBeside_23 : decode (mC M_X4_ballBeside) 23 = .ok (.iload_n 3, 1) := by decide +kernel
theorem dX4_ballBeside_24 : decode (mC M_X4_ballBeside) 24 = .ok (.ireturn, 1) := by decide +kernel
theorem dX4_ballBeside_25 : decode (mC M_X4_ballBeside) 25 = .ok (.iinc 3 1, 3) := by decide +kernel
theorem dX4_ballBeside_28 : decode (mC M_X4_ballBeside) 28 = .ok (.goto (-26), 3) := by decide +kernel
theorem dX4_ballBeside_31 : decode (mC M_X4_ballBeside) 31 = .ok (.iconst (-1), 1) := by decide +kernel
theorem dX4_ballBeside_32 : decode (mC M_X4_ballBeside) 32 = .ok (.ireturn, 1) := by decide +kernel
theorem dX4_note_0 : decode (mC M_X4_note) 0 = .ok (.return_, 1) := by decide +kernel
theorem dX4_isBeside_0 : decode (mC M_X4_isBeside) 0 = .ok (.iload_n 1, 1) := by decide +kernel
theorem dX4_isBeside_1 : decode (mC M_X4_isBeside) 1 = .ok (.ifCond .lt 47, 3) := by decide +kernel
theorem dX4_isBeside_4 : decode (mC M_X4_isBeside) 4 = .ok (.iload_n 1, 1) := by decide +kernel
theorem dX4_isBeside_5 : decode (mC M_X4_isBeside) 5 = .ok (.bipush 8, 2) := by decide +kernel
theorem dX4_isBeside_7 : decode (mC M_X4_isBeside) 7 = .ok (.if_icmp .ge 41, 3) := by decide +kernel
theorem dX4_isBeside_10 : decode (mC M_X4_isBeside) 10 = .ok (.iload_n 2, 1) := by decide +kernel
theorem dX4_isBeside_11 : decode (mC M_X4_isBeside) 11 = .ok (.ifCond .lt 37, 3) := by decide +kernel
theorem dX4_isBeside_14 : decode (mC M_X4_isBeside) 14 = .ok (.iload_n 2, 1) := by decide +kernel
theorem dX4_isBeside_15 : decode (mC M_X4_isBeside) 15 = .ok (.bipush 8, 2) := by decide +kernel
theorem dX4_isBeside_17 : decode (mC M_X4_isBeside) 17 = .ok (.if_icmp .ge 31, 3) := by decide +kernel
theorem dX4_isBeside_20 : decode (mC M_X4_isBeside) 20 = .ok (.iload_n 3, 1) := by decide +kernel
theorem dX4_isBeside_21 : decode (mC M_X4_isBeside) 21 = .ok (.ifCond .lt 27, 3) := by decide +kernel
theorem dX4_isBeside_24 : decode (mC M_X4_isBeside) 24 = .ok (.iload_n 3, 1) := by decide +kernel
theorem dX4_isBeside_25 : decode (mC M_X4_isBeside) 25 = .ok (.bipush 8, 2) := by decide +kernel
theorem dX4_isBeside_27 : decode (mC M_X4_isBeside) 27 = .ok (.if_icmp .ge 21, 3) := by decide +kernel
theorem dX4_isBeside_30 : decode (mC M_X4_isBeside) 30 = .ok (.aload_n 0, 1) := by decide +kernel
theorem dX4_isBeside_31 : decode (mC M_X4_isBeside) 31 = .ok (.getfield 15, 3) := by decide +kernel
theorem dX4_isBeside_34 : decode (mC M_X4_isBeside) 34 = .ok (.iload_n 1, 1) := by decide +kernel
theorem dX4_isBeside_35 : decode (mC M_X4_isBeside) 35 = .ok (.iaload, 1) := by decide +kernel
theorem dX4_isBeside_36 : decode (mC M_X4_isBeside) 36 = .ok (.ifCond .lt 12, 3) := by decide +kernel
theorem dX4_isBeside_39 : decode (mC M_X4_isBeside) 39 = .ok (.aload_n 0, 1) := by decide +kernel
theorem dX4_isBeside_40 : decode (mC M_X4_isBeside) 40 = .ok (.getfield 15, 3) := by decide +kernel
theorem dX4_isBeside_43 : decode (mC M_X4_isBeside) 43 = .ok (.iload_n 2, 1) := by decide +kernel
theorem dX4_isBeside_44 : decode (mC M_X4_isBeside) 44 = .ok (.iaload, 1) := by decide +kernel
theorem dX4_isBeside_45 : decode (mC M_X4_isBeside) 45 = .ok (.ifCond .ge 5, 3) := by decide +kernel
theorem dX4_isBeside_48 : decode (mC M_X4_isBeside) 48 = .ok (.iconst 0, 1) := by decide +kernel
theorem dX4_isBeside_49 : decode (mC M_X4_isBeside) 49 = .ok (.ireturn, 1) := by decide +kernel
theorem dX4_isBeside_50 : decode (mC M_X4_isBeside) 50 = .ok (.aload_n 0, 1) := by decide +kernel
theorem dX4_isBeside_51 : decode (mC M_X4_isBeside) 51 = .ok (.getfield 15, 3) := by decide +kernel
theorem dX4_isBeside_54 : decode (mC M_X4_isBeside) 54 = .ok (.iload_n 2, 1) := by decide +kernel
theorem dX4_isBeside_55 : decode (mC M_X4_isBeside) 55 = .ok (.iaload, 1) := by decide +kernel
theorem dX4_isBeside_56 : decode (mC M_X4_isBeside) 56 = .ok (.bipush 16, 2) := by decide +kernel
theorem dX4_isBeside_58 : decode (mC M_X4_isBeside) 58 = .ok (.irem, 1) := by decide +kernel
theorem dX4_isBeside_59 : decode (mC M_X4_isBeside) 59 = .ok (.aload_n 0, 1) := by decide +kernel
theorem dX4_isBeside_60 : decode (mC M_X4_isBeside) 60 = .ok (.getfield 15, 3) := by decide +kernel
theorem dX4_isBeside_63 : decode (mC M_X4_isBeside) 63 = .ok (.iload_n 1, 1) := by decide +kernel
theorem dX4_isBeside_64 : decode (mC M_X4_isBeside) 64 = .ok (.iaload, 1) := by decide +kernel
theorem dX4_isBeside_65 : decode (mC M_X4_isBeside) 65 = .ok (.bipush 16, 2) := by decide +kernel
theorem dX4_isBeside_67 : decode (mC M_X4_isBeside) 67 = .ok (.irem, 1) := by decide +kernel
theorem dX4_isBeside_68 : decode (mC M_X4_isBeside) 68 = .ok (.isub, 1) := by decide +kernel
theorem dX4_isBeside_69 : decode (mC M_X4_isBeside) 69 = .ok (.getstatic 19, 3) := by decide +kernel
theorem dX4_isBeside_72 : decode (mC M_X4_isBeside) 72 = .ok (.iload_n 3, 1) := by decide +kernel
theorem dX4_isBeside_73 : decode (mC M_X4_isBeside) 73 = .ok (.iaload, 1) := by decide +kernel
theorem dX4_isBeside_74 : decode (mC M_X4_isBeside) 74 = .ok (.if_icmp .ne 34, 3) := by decide +kernel
theorem dX4_isBeside_77 : decode (mC M_X4_isBeside) 77 = .ok (.aload_n 0, 1) := by decide +kernel
theorem dX4_isBeside_78 : decode (mC M_X4_isBeside) 78 = .ok (.getfield 15, 3) := by decide +kernel
theorem dX4_isBeside_81 : decode (mC M_X4_isBeside) 81 = .ok (.iload_n 2, 1) := by decide +kernel
theorem dX4_isBeside_82 : decode (mC M_X4_isBeside) 82 = .ok (.iaload, 1) := by decide +kernel
theorem dX4_isBeside_83 : decode (mC M_X4_isBeside) 83 = .ok (.bipush 16, 2) := by decide +kernel
theorem dX4_isBeside_85 : decode (mC M_X4_isBeside) 85 = .ok (.idiv, 1) := by decide +kernel
theorem dX4_isBeside_86 : decode (mC M_X4_isBeside) 86 = .ok (.aload_n 0, 1) := by decide +kernel
theorem dX4_isBeside_87 : decode (mC M_X4_isBeside) 87 = .ok (.getfield 15, 3) := by decide +kernel
theorem dX4_isBeside_90 : decode (mC M_X4_isBeside) 90 = .ok (.iload_n 1, 1) := by decide +kernel
theorem dX4_isBeside_91 : decode (mC M_X4_isBeside) 91 = .ok (.iaload, 1) := by decide +kernel
theorem dX4_isBeside_92 : decode (mC M_X4_isBeside) 92 = .ok (.bipush 16, 2) := by decide +kernel
theorem dX4_isBeside_94 : decode (mC M_X4_isBeside) 94 = .ok (.idiv, 1) := by decide +kernel
theorem dX4_isBeside_95 : decode (mC M_X4_isBeside) 95 = .ok (.isub, 1) := by decide +kernel
theorem dX4_isBeside_96 : decode (mC M_X4_isBeside) 96 = .ok (.getstatic 22, 3) := by decide +kernel
theorem dX4_isBeside_99 : decode (mC M_X4_isBeside) 99 = .ok (.iload_n 3, 1) := by decide +kernel
theorem dX4_isBeside_100 : decode (mC M_X4_isBeside) 100 = .ok (.iaload, 1) := by decide +kernel
theorem dX4_isBeside_101 : decode (mC M_X4_isBeside) 101 = .ok (.if_icmp .ne 7, 3) := by decide +kernel
theorem dX4_isBeside_104 : decode (mC M_X4_isBeside) 104 = .ok (.iconst 1, 1) := by decide +kernel
theorem dX4_isBeside_105 : decode (mC M_X4_isBeside) 105 = .ok (.goto 4, 3) := by decide +kernel
theorem dX4_isBeside_108 : decode (mC M_X4_isBeside) 108 = .ok (.iconst 0, 1) := by decide +kernel
theorem dX4_isBeside_109 : decode (mC M_X4_isBeside) 109 = .ok (.ireturn, 1) := by decide +kernel
theorem dX5_init_0 : decode (mC M_X5_init) 0 = .ok (.aload_n 0, 1) := by decide +kernel
theorem dX5_init_1 : decode (mC M_X5_init) 1 = .ok (.invokespecial 3, 3) := by decide +kernel
theorem dX5_init_4 : decode (mC M_X5_init) 4 = .ok (.aload_n 0, 1) := by decide +kernel
theorem dX5_init_5 : decode (mC M_X5_init) 5 = .ok (.iconst (-1), 1) := by decide +kernel
theorem dX5_init_6 : decode (mC M_X5_init) 6 = .ok (.putfield 9, 3) := by decide +kernel
theorem dX5_init_9 : decode (mC M_X5_init) 9 = .ok (.aload_n 0, 1) := by decide +kernel
theorem dX5_init_10 : decode (mC M_X5_init) 10 = .ok (.iload_n 1, 1) := by decide +kernel
theorem dX5_init_11 : decode (mC M_X5_init) 11 = .ok (.putfield 15, 3) := by decide +kernel
theorem dX5_init_14 : decode (mC M_X5_init) 14 = .ok (.aload_n 0, 1) := by decide +kernel
theorem dX5_init_15 : decode (mC M_X5_init) 15 = .ok (.iload_n 2, 1) := by decide +kernel
theorem dX5_init_16 : decode (mC M_X5_init) 16 = .ok (.putfield 18, 3) := by decide +kernel
theorem dX5_init_19 : decode (mC M_X5_init) 19 = .ok (.aload_n 0, 1) := by decide +kernel
theorem dX5_init_20 : decode (mC M_X5_init) 20 = .ok (.iload_n 3, 1) := by decide +kernel
theorem dX5_init_21 : decode (mC M_X5_init) 21 = .ok (.putfield 21, 3) := by decide +kernel
theorem dX5_init_24 : decode (mC M_X5_init) 24 = .ok (.return_, 1) := by decide +kernel
theorem dX5_close_0 : decode (mC M_X5_close) 0 = .ok (.aload_n 0, 1) := by decide +kernel
theorem dX5_close_1 : decode (mC M_X5_close) 1 = .ok (.iload_n 1, 1) := by decide +kernel
theorem dX5_close_2 : decode (mC M_X5_close) 2 = .ok (.putfield 9, 3) := by decide +kernel
theorem dX5_close_5 : decode (mC M_X5_close) 5 = .ok (.aload_n 0, 1) := by decide +kernel
theorem dX5_close_6 : decode (mC M_X5_close) 6 = .ok (.iload_n 2, 1) := by decide +kernel
theorem dX5_close_7 : decode (mC M_X5_close) 7 = .ok (.putfield 24, 3) := by decide +kernel
theorem dX5_close_10 : decode (mC M_X5_close) 10 = .ok (.return_, 1) := by decide +kernel
theorem dX5_isClosed_0 : decode (mC M_X5_isClosed) 0 = .ok (.aload_n 0, 1) := by decide +kernel
theorem dX5_isClosed_1 : decode (mC M_X5_isClosed) 1 = .ok (.getfield 9, 3) := by decide +kernel
theorem dX5_isClosed_4 : decode (mC M_X5_isClosed) 4 = .ok (.iconst (-1), 1) := by decide +kernel
theorem dX5_isClosed_5 : decode (mC M_X5_isClosed) 5 = .ok (.if_icmp .eq 7, 3) := by decide +kernel
theorem dX5_isClosed_8 : decode (mC M_X5_isClosed) 8 = .ok (.iconst 1, 1) := by decide +kernel
theorem dX5_isClosed_9 : decode (mC M_X5_isClosed) 9 = .ok (.goto 4, 3) := by decide +kernel
theorem dX5_isClosed_12 : decode (mC M_X5_isClosed) 12 = .ok (.iconst 0, 1) := by decide +kernel
theorem dX5_isClosed_13 : decode (mC M_X5_isClosed) 13 = .ok (.ireturn, 1) := by decide +kernel
theorem dX6_init_0 : decode (mC M_X6_init) 0 = .ok (.aload_n 0, 1) := by decide +kernel
theorem dX6_init_1 : decode (mC M_X6_init) 1 = .ok (.invokespecial 3, 3) := by decide +kernel
theorem dX6_init_4 : decode (mC M_X6_init) 4 = .ok (.aload_n 0, 1) := by decide +kernel
theorem dX6_init_5 : decode (mC M_X6_init) 5 = .ok (.bipush 8, 2) := by decide +kernel
theorem dX6_init_7 : decode (mC M_X6_init) 7 = .ok (.newarray .int, 2) := by decide +kernel
theorem dX6_init_9 : decode (mC M_X6_init) 9 = .ok (.putfield 9, 3) := by decide +kernel
theorem dX6_init_12 : decode (mC M_X6_init) 12 = .ok (.aload_n 0, 1) := by decide +kernel
theorem dX6_init_13 : decode (mC M_X6_init) 13 = .ok (.bipush 8, 2) := by decide +kernel
theorem dX6_init_15 : decode (mC M_X6_init) 15 = .ok (.newarray .int, 2) := by decide +kernel
theorem dX6_init_17 : decode (mC M_X6_init) 17 = .ok (.putfield 15, 3) := by decide +kernel
theorem dX6_init_20 : decode (mC M_X6_init) 20 = .ok (.aload_n 0, 1) := by decide +kernel
theorem dX6_init_21 : decode (mC M_X6_init) 21 = .ok (.bipush 8, 2) := by decide +kernel
theorem dX6_init_23 : decode (mC M_X6_init) 23 = .ok (.newarray .int, 2) := by decide +kernel
theorem dX6_init_25 : decode (mC M_X6_init) 25 = .ok (.putfield 18, 3) := by decide +kernel
theorem dX6_init_28 : decode (mC M_X6_init) 28 = .ok (.aload_n 0, 1) := by decide +kernel
theorem dX6_init_29 : decode (mC M_X6_init) 29 = .ok (.bipush 8, 2) := by decide +kernel
theorem dX6_init_31 : decode (mC M_X6_init) 31 = .ok (.newarray .boolean, 2) := by decide +kernel
theorem dX6_init_33 : decode (mC M_X6_init) 33 = .ok (.putfield 21, 3) := by decide +kernel
theorem dX6_init_36 : decode (mC M_X6_init) 36 = .ok (.return_, 1) := by decide +kernel
theorem dX6_run_0 : decode (mC M_X6_run) 0 = .ok (.iconst 0, 1) := by decide +kernel
theorem dX6_run_1 : decode (mC M_X6_run) 1 = .ok (.istore 4, 2) := by decide +kernel
theorem dX6_run_3 : decode (mC M_X6_run) 3 = .ok (.iload 4, 2) := by decide +kernel
theorem dX6_run_5 : decode (mC M_X6_run) 5 = .ok (.bipush 8, 2) := by decide +kernel
theorem dX6_run_7 : decode (mC M_X6_run) 7 = .ok (.if_icmp .ge 51, 3) := by decide +kernel
theorem dX6_run_10 : decode (mC M_X6_run) 10 = .ok (.iload 4, 2) := by decide +kernel
theorem dX6_run_12 : decode (mC M_X6_run) 12 = .ok (.aload_n 1, 1) := by decide +kernel
theorem dX6_run_13 : decode (mC M_X6_run) 13 = .ok (.arraylength, 1) := by decide +kernel
theorem dX6_run_14 : decode (mC M_X6_run) 14 = .ok (.if_icmp .ge 44, 3) := by decide +kernel
theorem dX6_run_17 : decode (mC M_X6_run) 17 = .ok (.aload_n 0, 1) := by decide +kernel
theorem dX6_run_18 : decode (mC M_X6_run) 18 = .ok (.getfield 9, 3) := by decide +kernel
theorem dX6_run_21 : decode (mC M_X6_run) 21 = .ok (.iload 4, 2) := by decide +kernel
theorem dX6_run_23 : decode (mC M_X6_run) 23 = .ok (.aload_n 1, 1) := by decide +kernel
theorem dX6_run_24 : decode (mC M_X6_run) 24 = .ok (.iload 4, 2) := by decide +kernel
theorem dX6_run_26 : decode (mC M_X6_run) 26 = .ok (.iaload, 1) := by decide +kernel
theorem dX6_run_27 : decode (mC M_X6_run) 27 = .ok (.iastore, 1) := by decide +kernel
theorem dX6_run_28 : decode (mC M_X6_run) 28 = .ok (.aload_n 0, 1) := by decide +kernel
theorem dX6_run_29 : decode (mC M_X6_run) 29 = .ok (.getfield 15, 3) := by decide +kernel
theorem dX6_run_32 : decode (mC M_X6_run) 32 = .ok (.iload 4, 2) := by decide +kernel
theorem dX6_run_34 : decode (mC M_X6_run) 34 = .ok (.iconst 0, 1) := by decide +kernel
theorem dX6_run_35 : decode (mC M_X6_run) 35 = .ok (.iastore, 1) := by decide +kernel
theorem dX6_run_36 : decode (mC M_X6_run) 36 = .ok (.aload_n 0, 1) := by decide +kernel
theorem dX6_run_37 : decode (mC M_X6_run) 37 = .ok (.getfield 18, 3) := by decide +kernel
theorem dX6_run_40 : decode (mC M_X6_run) 40 = .ok (.iload 4, 2) := by decide +kernel
theorem dX6_run_42 : decode (mC M_X6_run) 42 = .ok (.iconst 0, 1) := by decide +kernel
theorem dX6_run_43 : decode (mC M_X6_run) 43 = .ok (.iastore, 1) := by decide +kernel
theorem dX6_run_44 : decode (mC M_X6_run) 44 = .ok (.aload_n 0, 1) := by decide +kernel
theorem dX6_run_45 : decode (mC M_X6_run) 45 = .ok (.getfield 21, 3) := by decide +kernel
theorem dX6_run_48 : decode (mC M_X6_run) 48 = .ok (.iload 4, 2) := by decide +kernel
theorem dX6_run_50 : decode (mC M_X6_run) 50 = .ok (.iconst 0, 1) := by decide +kernel
theorem dX6_run_51 : decode (mC M_X6_run) 51 = .ok (.bastore, 1) := by decide +kernel
theorem dX6_run_52 : decode (mC M_X6_run) 52 = .ok (.iinc 4 1, 3) := by decide +kernel
theorem dX6_run_55 : decode (mC M_X6_run) 55 = .ok (.goto (-52), 3) := by decide +kernel
theorem dX6_run_58 : decode (mC M_X6_run) 58 = .ok (.aload_n 0, 1) := by decide +kernel
theorem dX6_run_59 : decode (mC M_X6_run) 59 = .ok (.iconst 0, 1) := by decide +kernel
theorem dX6_run_60 : decode (mC M_X6_run) 60 = .ok (.putfield 25, 3) := by decide +kernel
theorem dX6_run_63 : decode (mC M_X6_run) 63 = .ok (.aload_n 0, 1) := by decide +kernel
theorem dX6_run_64 : decode (mC M_X6_run) 64 = .ok (.iconst (-1), 1) := by decide +kernel
theorem dX6_run_65 : decode (mC M_X6_run) 65 = .ok (.putfield 29, 3) := by decide +kernel
theorem dX6_run_68 : decode (mC M_X6_run) 68 = .ok (.aload_n 0, 1) := by decide +kernel
theorem dX6_run_69 : decode (mC M_X6_run) 69 = .ok (.getfield 15, 3) := by decide +kernel
theorem dX6_run_72 : decode (mC M_X6_run) 72 = .ok (.iconst 0, 1) := by decide +kernel
theorem dX6_run_73 : decode (mC M_X6_run) 73 = .ok (.iload_n 2, 1) := by decide +kernel
theorem dX6_run_74 : decode (mC M_X6_run) 74 = .ok (.iastore, 1) := by decide +kernel
theorem dX6_run_75 : decode (mC M_X6_run) 75 = .ok (.aload_n 0, 1) := by decide +kernel
theorem dX6_run_76 : decode (mC M_X6_run) 76 = .ok (.getfield 18, 3) := by decide +kernel
theorem dX6_run_79 : decode (mC M_X6_run) 79 = .ok (.iconst 0, 1) := by decide +kernel
theorem dX6_run_80 : decode (mC M_X6_run) 80 = .ok (.iload_n 3, 1) := by decide +kernel
theorem dX6_run_81 : decode (mC M_X6_run) 81 = .ok (.iastore, 1) := by decide +kernel
theorem dX6_run_82 : decode (mC M_X6_run) 82 = .ok (.aload_n 0, 1) := by decide +kernel
theorem dX6_run_83 : decode (mC M_X6_run) 83 = .ok (.invokevirtual 32, 3) := by decide +kernel
theorem dX6_run_86 : decode (mC M_X6_run) 86 = .ok (.iconst 0, 1) := by decide +kernel
theorem dX6_run_87 : decode (mC M_X6_run) 87 = .ok (.istore 4, 2) := by decide +kernel
theorem dX6_run_89 : decode (mC M_X6_run) 89 = .ok (.iload 4, 2) := by decide +kernel
theorem dX6_run_91 : decode (mC M_X6_run) 91 = .ok (.sipush 300, 3) := by decide +kernel
theorem dX6_run_94 : decode (mC M_X6_run) 94 = .ok (.if_icmp .ge 47, 3) := by decide +kernel
theorem dX6_run_97 : decode (mC M_X6_run) 97 = .ok (.aload_n 0, 1) := by decide +kernel
theorem dX6_run_98 : decode (mC M_X6_run) 98 = .ok (.invokevirtual 35, 3) := by decide +kernel
theorem dX6_run_101 : decode (mC M_X6_run) 101 = .ok (.ifCond .eq 40, 3) := by decide +kernel
theorem dX6_run_104 : decode (mC M_X6_run) 104 = .ok (.iconst 0, 1) := by decide +kernel
theorem dX6_run_105 : decode (mC M_X6_run) 105 = .ok (.istore 5, 2) := by decide +kernel
theorem dX6_run_107 : decode (mC M_X6_run) 107 = .ok (.iload 5, 2) := by decide +kernel
theorem dX6_run_109 : decode (mC M_X6_run) 109 = .ok (.bipush 8, 2) := by decide +kernel
theorem dX6_run_111 : decode (mC M_X6_run) 111 = .ok (.if_icmp .ge 24, 3) := by decide +kernel
theorem dX6_run_114 : decode (mC M_X6_run) 114 = .ok (.aload_n 0, 1) := by decide +kernel
theorem dX6_run_115 : decode (mC M_X6_run) 115 = .ok (.iload 5, 2) := by decide +kernel
theorem dX6_run_117 : decode (mC M_X6_run) 117 = .ok (.invokevirtual 39, 3) := by decide +kernel
theorem dX6_run_120 : decode (mC M_X6_run) 120 = .ok (.ifCond .eq 9, 3) := by decide +kernel
theorem dX6_run_123 : decode (mC M_X6_run) 123 = .ok (.aload_n 0, 1) := by decide +kernel
theorem dX6_run_124 : decode (mC M_X6_run) 124 = .ok (.iload 5, 2) := by decide +kernel
theorem dX6_run_126 : decode (mC M_X6_run) 126 = .ok (.invokevirtual 43, 3) := by decide +kernel
theorem dX6_run_129 : decode (mC M_X6_run) 129 = .ok (.iinc 5 1, 3) := by decide +kernel
theorem dX6_run_132 : decode (mC M_X6_run) 132 = .ok (.goto (-25), 3) := by decide +kernel
theorem dX6_run_135 : decode (mC M_X6_run) 135 = .ok (.iinc 4 1, 3) := by decide +kernel
theorem dX6_run_138 : decode (mC M_X6_run) 138 = .ok (.goto (-49), 3) := by decide +kernel
theorem dX6_run_141 : decode (mC M_X6_run) 141 = .ok (.return_, 1) := by decide +kernel
theorem dX6_droppedNumbers_0 : decode (mC M_X6_droppedNumbers) 0 = .ok (.iconst 0, 1) := by decide +kernel
theorem dX6_droppedNumbers_1 : decode (mC M_X6_droppedNumbers) 1 = .ok (.istore_n 1, 1) := by decide +kernel
theorem dX6_droppedNumbers_2 : decode (mC M_X6_droppedNumbers) 2 = .ok (.iconst 1, 1) := by decide +kernel
theorem dX6_droppedNumbers_3 : decode (mC M_X6_droppedNumbers) 3 = .ok (.istore_n 2, 1) := by decide +kernel
theorem dX6_droppedNumbers_4 : decode (mC M_X6_droppedNumbers) 4 = .ok (.iload_n 2, 1) := by decide +kernel
theorem dX6_droppedNumbers_5 : decode (mC M_X6_droppedNumbers) 5 = .ok (.bipush 8, 2) := by decide +kernel
theorem dX6_droppedNumbers_7 : decode (mC M_X6_droppedNumbers) 7 = .ok (.if_icmp .ge 22, 3) := by decide +kernel
theorem dX6_droppedNumbers_10 : decode (mC M_X6_droppedNumbers) 10 = .ok (.aload_n 0, 1) := by decide +kernel
theorem dX6_droppedNumbers_11 : decode (mC M_X6_droppedNumbers) 11 = .ok (.getfield 21, 3) := by decide +kernel
theorem dX6_droppedNumbers_14 : decode (mC M_X6_droppedNumbers) 14 = .ok (.iload_n 2, 1) := by decide +kernel
theorem dX6_droppedNumbers_15 : decode (mC M_X6_droppedNumbers) 15 = .ok (.baload, 1) := by decide +kernel
theorem dX6_droppedNumbers_16 : decode (mC M_X6_droppedNumbers) 16 = .ok (.ifCond .eq 7, 3) := by decide +kernel
theorem dX6_droppedNumbers_19 : decode (mC M_X6_droppedNumbers) 19 = .ok (.iload_n 1, 1) := by decide +kernel
theorem dX6_droppedNumbers_20 : decode (mC M_X6_droppedNumbers) 20 = .ok (.iload_n 2, 1) := by decide +kernel
theorem dX6_droppedNumbers_21 : decode (mC M_X6_droppedNumbers) 21 = .ok (.iadd, 1) := by decide +kernel
theorem dX6_droppedNumbers_22 : decode (mC M_X6_droppedNumbers) 22 = .ok (.istore_n 1, 1) := by decide +kernel
theorem dX6_droppedNumbers_23 : decode (mC M_X6_droppedNumbers) 23 = .ok (.iinc 2 1, 3) := by decide +kernel
theorem dX6_droppedNumbers_26 : decode (mC M_X6_droppedNumbers) 26 = .ok (.goto (-22), 3) := by decide +kernel
theorem dX6_droppedNumbers_29 : decode (mC M_X6_droppedNumbers) 29 = .ok (.iload_n 1, 1) := by decide +kernel
theorem dX6_droppedNumbers_30 : decode (mC M_X6_droppedNumbers) 30 = .ok (.ireturn, 1) := by decide +kernel
theorem dX6_isSomeRolling_0 : decode (mC M_X6_isSomeRolling) 0 = .ok (.iconst 0, 1) := by decide +kernel
theorem dX6_isSomeRolling_1 : decode (mC M_X6_isSomeRolling) 1 = .ok (.istore_n 1, 1) := by decide +kernel
theorem dX6_isSomeRolling_2 : decode (mC M_X6_isSomeRolling) 2 = .ok (.iload_n 1, 1) := by decide +kernel
theorem dX6_isSomeRolling_3 : decode (mC M_X6_isSomeRolling) 3 = .ok (.bipush 8, 2) := by decide +kernel
theorem dX6_isSomeRolling_5 : decode (mC M_X6_isSomeRolling) 5 = .ok (.if_icmp .ge 19, 3) := by decide +kernel
theorem dX6_isSomeRolling_8 : decode (mC M_X6_isSomeRolling) 8 = .ok (.aload_n 0, 1) := by decide +kernel
theorem dX6_isSomeRolling_9 : decode (mC M_X6_isSomeRolling) 9 = .ok (.iload_n 1, 1) := by decide +kernel
theorem dX6_isSomeRolling_10 : decode (mC M_X6_isSomeRolling) 10 = .ok (.invokevirtual 39, 3) := by decide +kernel
theorem dX6_isSomeRolling_13 : decode (mC M_X6_isSomeRolling) 13 = .ok (.ifCond .eq 5, 3) := by decide +kernel
theorem dX6_isSomeRolling_16 : decode (mC M_X6_isSomeRolling) 16 = .ok (.iconst 1, 1) := by decide +kernel
theorem dX6_isSomeRolling_17 : decode (mC M_X6_isSomeRolling) 17 = .ok (.ireturn, 1) := by decide +kernel
theorem dX6_isSomeRolling_18 : decode (mC M_X6_isSomeRolling) 18 = .ok (.iinc 1 1, 3) := by decide +kernel
theorem dX6_isSomeRolling_21 : decode (mC M_X6_isSomeRolling) 21 = .ok (.goto (-19), 3) := by decide +kernel
theorem dX6_isSomeRolling_24 : decode (mC M_X6_isSomeRolling) 24 = .ok (.iconst 0, 1) := by decide +kernel
theorem dX6_isSomeRolling_25 : decode (mC M_X6_isSomeRolling) 25 = .ok (.ireturn, 1) := by decide +kernel
theorem dX6_isRolling_0 : decode (mC M_X6_isRolling) 0 = .ok (.iload_n 1, 1) := by decide +kernel
theorem dX6_isRolling_1 : decode (mC M_X6_isRolling) 1 = .ok (.ifCond .lt 32, 3) := by decide +kernel
theorem dX6_isRolling_4 : decode (mC M_X6_isRolling) 4 = .ok (.iload_n 1, 1) := by decide +kernel
theorem dX6_isRolling_5 : decode (mC M_X6_isRolling) 5 = .ok (.bipush 8, 2) := by decide +kernel
theorem dX6_isRolling_7 : decode (mC M_X6_isRolling) 7 = .ok (.if_icmp .ge 26, 3) := by decide +kernel
theorem dX6_isRolling_10 : decode (mC M_X6_isRolling) 10 = .ok (.aload_n 0, 1) := by decide +kernel
theorem dX6_isRolling_11 : decode (mC M_X6_isRolling) 11 = .ok (.getfield 9, 3) := by decide +kernel
theorem dX6_isRolling_14 : decode (mC M_X6_isRolling) 14 = .ok (.iload_n 1, 1) := by decide +kernel
theorem dX6_isRolling_15 : decode (mC M_X6_isRolling) 15 = .ok (.iaload, 1) := by decide +kernel
theorem dX6_isRolling_16 : decode (mC M_X6_isRolling) 16 = .ok (.iconst (-1), 1) := by decide +kernel
theorem dX6_isRolling_17 : decode (mC M_X6_isRolling) 17 = .ok (.if_icmp .eq 16, 3) := by decide +kernel
theorem dX6_isRolling_20 : decode (mC M_X6_isRolling) 20 = .ok (.aload_n 0, 1) := by decide +kernel
theorem dX6_isRolling_21 : decode (mC M_X6_isRolling) 21 = .ok (.getfield 18, 3) := by decide +kernel
theorem dX6_isRolling_24 : decode (mC M_X6_isRolling) 24 = .ok (.iload_n 1, 1) := by decide +kernel
theorem dX6_isRolling_25 : decode (mC M_X6_isRolling) 25 = .ok (.iaload, 1) := by decide +kernel
theorem dX6_isRolling_26 : decode (mC M_X6_isRolling) 26 = .ok (.ifCond .le 7, 3) := by decide +kernel
theorem dX6_isRolling_29 : decode (mC M_X6_isRolling) 29 = .ok (.iconst 1, 1) := by decide +kernel
theorem dX6_isRolling_30 : decode (mC M_X6_isRolling) 30 = .ok (.goto 4, 3) := by decide +kernel
theorem dX6_isRolling_33 : decode (mC M_X6_isRolling) 33 = .ok (.iconst 0, 1) := by decide +kernel
theorem dX6_isRolling_34 : decode (mC M_X6_isRolling) 34 = .ok (.ireturn, 1) := by decide +kernel
theorem dX6_act_0 : decode (mC M_X6_act) 0 = .ok (.aload_n 0, 1) := by decide +kernel
theorem dX6_act_1 : decode (mC M_X6_act) 1 = .ok (.getfield 9, 3) := by decide +kernel
theorem dX6_act_4 : decode (mC M_X6_act) 4 = .ok (.iload_n 1, 1) := by decide +kernel
theorem dX6_act_5 : decode (mC M_X6_act) 5 = .ok (.iaload, 1) := by decide +kernel
theorem dX6_act_6 : decode (mC M_X6_act) 6 = .ok (.aload_n 0, 1) := by decide +kernel
theorem dX6_act_7 : decode (mC M_X6_act) 7 = .ok (.getfield 15, 3) := by decide +kernel
theorem dX6_act_10 : decode (mC M_X6_act) 10 = .ok (.iload_n 1, 1) := by decide +kernel
theorem dX6_act_11 : decode (mC M_X6_act) 11 = .ok (.iaload, 1) := by decide +kernel
theorem dX6_act_12 : decode (mC M_X6_act) 12 = .ok (.invokestatic 47, 3) := by decide +kernel
theorem dX6_act_15 : decode (mC M_X6_act) 15 = .ok (.istore_n 2, 1) := by decide +kernel
theorem dX6_act_16 : decode (mC M_X6_act) 16 = .ok (.iload_n 2, 1) := by decide +kernel
theorem dX6_act_17 : decode (mC M_X6_act) 17 = .ok (.iconst (-1), 1) := by decide +kernel
theorem dX6_act_18 : decode (mC M_X6_act) 18 = .ok (.if_icmp .ne 35, 3) := by decide +kernel
theorem dX6_act_21 : decode (mC M_X6_act) 21 = .ok (.aload_n 0, 1) := by decide +kernel
theorem dX6_act_22 : decode (mC M_X6_act) 22 = .ok (.getfield 15, 3) := by decide +kernel
theorem dX6_act_25 : decode (mC M_X6_act) 25 = .ok (.iload_n 1, 1) := by decide +kernel
theorem dX6_act_26 : decode (mC M_X6_act) 26 = .ok (.aload_n 0, 1) := by decide +kernel
theorem dX6_act_27 : decode (mC M_X6_act) 27 = .ok (.getfield 9, 3) := by decide +kernel
theorem dX6_act_30 : decode (mC M_X6_act) 30 = .ok (.iload_n 1, 1) := by decide +kernel
theorem dX6_act_31 : decode (mC M_X6_act) 31 = .ok (.iaload, 1) := by decide +kernel
theorem dX6_act_32 : decode (mC M_X6_act) 32 = .ok (.aload_n 0, 1) := by decide +kernel
theorem dX6_act_33 : decode (mC M_X6_act) 33 = .ok (.getfield 15, 3) := by decide +kernel
theorem dX6_act_36 : decode (mC M_X6_act) 36 = .ok (.iload_n 1, 1) := by decide +kernel
theorem dX6_act_37 : decode (mC M_X6_act) 37 = .ok (.iaload, 1) := by decide +kernel
theorem dX6_act_38 : decode (mC M_X6_act) 38 = .ok (.invokestatic 51, 3) := by decide +kernel
theorem dX6_act_41 : decode (mC M_X6_act) 41 = .ok (.iastore, 1) := by decide +kernel
theorem dX6_act_42 : decode (mC M_X6_act) 42 = .ok (.aload_n 0, 1) := by decide +kernel
theorem dX6_act_43 : decode (mC M_X6_act) 43 = .ok (.getfield 18, 3) := by decide +kernel
theorem dX6_act_46 : decode (mC M_X6_act) 46 = .ok (.iload_n 1, 1) := by decide +kernel
theorem dX6_act_47 : decode (mC M_X6_act) 47 = .ok (.dup2, 1) := by decide +kernel
theorem dX6_act_48 : decode (mC M_X6_act) 48 = .ok (.iaload, 1) := by decide +kernel
theorem dX6_act_49 : decode (mC M_X6_act) 49 = .ok (.iconst 1, 1) := by decide +kernel
theorem dX6_act_50 : decode (mC M_X6_act) 50 = .ok (.isub, 1) := by decide +kernel
theorem dX6_act_51 : decode (mC M_X6_act) 51 = .ok (.iastore, 1) := by decide +kernel
theorem dX6_act_52 : decode (mC M_X6_act) 52 = .ok (.return_, 1) := by decide +kernel
theorem dX6_act_53 : decode (mC M_X6_act) 53 = .ok (.aload_n 0, 1) := by decide +kernel
theorem dX6_act_54 : decode (mC M_X6_act) 54 = .ok (.iload_n 1, 1) := by decide +kernel
theorem dX6_act_55 : decode (mC M_X6_act) 55 = .ok (.aload_n 0, 1) := by decide +kernel
theorem dX6_act_56 : decode (mC M_X6_act) 56 = .ok (.getfield 15, 3) := by decide +kernel
theorem dX6_act_59 : decode (mC M_X6_act) 59 = .ok (.iload_n 1, 1) := by decide +kernel
theorem dX6_act_60 : decode (mC M_X6_act) 60 = .ok (.iaload, 1) := by decide +kernel
theorem dX6_act_61 : decode (mC M_X6_act) 61 = .ok (.invokevirtual 54, 3) := by decide +kernel
theorem dX6_act_64 : decode (mC M_X6_act) 64 = .ok (.istore_n 3, 1) := by decide +kernel
theorem dX6_act_65 : decode (mC M_X6_act) 65 = .ok (.iload_n 3, 1) := by decide +kernel
theorem dX6_act_66 : decode (mC M_X6_act) 66 = .ok (.ifCond .lt 18, 3) := by decide +kernel
theorem dX6_act_69 : decode (mC M_X6_act) 69 = .ok (.iload_n 3, 1) := by decide +kernel
theorem dX6_act_70 : decode (mC M_X6_act) 70 = .ok (.bipush 8, 2) := by decide +kernel
theorem dX6_act_72 : decode (mC M_X6_act) 72 = .ok (.if_icmp .ge 12, 3) := by decide +kernel
theorem dX6_act_75 : decode (mC M_X6_act) 75 = .ok (.aload_n 0, 1) := by decide +kernel
theorem dX6_act_76 : decode (mC M_X6_act) 76 = .ok (.iload_n 1, 1) := by decide +kernel
theorem dX6_act_77 : decode (mC M_X6_act) 77 = .ok (.iload_n 3, 1) := by decide +kernel
theorem dX6_act_78 : decode (mC M_X6_act) 78 = .ok (.invokevirtual 57, 3) := by decide +kernel
theorem dX6_act_81 : decode (mC M_X6_act) 81 = .ok (.goto 9, 3) := by decide +kernel
theorem dX6_act_84 : decode (mC M_X6_act) 84 = .ok (.aload_n 0, 1) := by decide +kernel
theorem dX6_act_85 : decode (mC M_X6_act) 85 = .ok (.iload_n 1, 1) := by decide +kernel
theorem dX6_act_86 : decode (mC M_X6_act) 86 = .ok (.iload_n 2, 1) := by decide +kernel
theorem dX6_act_87 : decode (mC M_X6_act) 87 = .ok (.invokevirtual 61, 3) := by decide +kernel
theorem dX6_act_90 : decode (mC M_X6_act) 90 = .ok (.return_, 1) := by decide +kernel
theorem dX6_meet_0 : decode (mC M_X6_meet) 0 = .ok (.aload_n 0, 1) := by decide +kernel
theorem dX6_meet_1 : decode (mC M_X6_meet) 1 = .ok (.getfield 18, 3) := by decide +kernel
theorem dX6_meet_4 : decode (mC M_X6_meet) 4 = .ok (.iload_n 1, 1) := by decide +kernel
theorem dX6_meet_5 : decode (mC M_X6_meet) 5 = .ok (.iaload, 1) := by decide +kernel
theorem dX6_meet_6 : decode (mC M_X6_meet) 6 = .ok (.iconst 1, 1) := by decide +kernel
theorem dX6_meet_7 : decode (mC M_X6_meet) 7 = .ok (.iadd, 1) := by decide +kernel
theorem dX6_meet_8 : decode (mC M_X6_meet) 8 = .ok (.iconst 2, 1) := by decide +kernel
theorem dX6_meet_9 : decode (mC M_X6_meet) 9 = .ok (.idiv, 1) := by decide +kernel
theorem dX6_meet_10 : decode (mC M_X6_meet) 10 = .ok (.istore_n 3, 1) := by decide +kernel
theorem dX6_meet_11 : decode (mC M_X6_meet) 11 = .ok (.aload_n 0, 1) := by decide +kernel
theorem dX6_meet_12 : decode (mC M_X6_meet) 12 = .ok (.getfield 15, 3) := by decide +kernel
theorem dX6_meet_15 : decode (mC M_X6_meet) 15 = .ok (.iload_n 2, 1) := by decide +kernel
theorem dX6_meet_16 : decode (mC M_X6_meet) 16 = .ok (.aload_n 0, 1) := by decide +kernel
theorem dX6_meet_17 : decode (mC M_X6_meet) 17 = .ok (.getfield 15, 3) := by decide +kernel
theorem dX6_meet_20 : decode (mC M_X6_meet) 20 = .ok (.iload_n 1, 1) := by decide +kernel
theorem dX6_meet_21 : decode (mC M_X6_meet) 21 = .ok (.iaload, 1) := by decide +kernel
theorem dX6_meet_22 : decode (mC M_X6_meet) 22 = .ok (.iastore, 1) := by decide +kernel
theorem dX6_meet_23 : decode (mC M_X6_meet) 23 = .ok (.aload_n 0, 1) := by decide +kernel
theorem dX6_meet_24 : decode (mC M_X6_meet) 24 = .ok (.getfield 18, 3) := by decide +kernel
theorem dX6_meet_27 : decode (mC M_X6_meet) 27 = .ok (.iload_n 1, 1) := by decide +kernel
theorem dX6_meet_28 : decode (mC M_X6_meet) 28 = .ok (.dup2, 1) := by decide +kernel
theorem dX6_meet_29 : decode (mC M_X6_meet) 29 = .ok (.iaload, 1) := by decide +kernel
theorem dX6_meet_30 : decode (mC M_X6_meet) 30 = .ok (.iload_n 3, 1) := by decide +kernel
theorem dX6_meet_31 : decode (mC M_X6_meet) 31 = .ok (.isub, 1) := by decide +kernel
theorem dX6_meet_32 : decode (mC M_X6_meet) 32 = .ok (.iastore, 1) := by decide +kernel
theorem dX6_meet_33 : decode (mC M_X6_meet) 33 = .ok (.aload_n 0, 1) := by decide +kernel
theorem dX6_meet_34 : decode (mC M_X6_meet) 34 = .ok (.getfield 18, 3) := by decide +kernel
theorem dX6_meet_37 : decode (mC M_X6_meet) 37 = .ok (.iload_n 2, 1) := by decide +kernel
theorem dX6_meet_38 : decode (mC M_X6_meet) 38 = .ok (.dup2, 1) := by decide +kernel
theorem dX6_meet_39 : decode (mC M_X6_meet) 39 = .ok (.iaload, 1) := by decide +kernel
theorem dX6_meet_40 : decode (mC M_X6_meet) 40 = .ok (.iload_n 3, 1) := by decide +kernel
theorem dX6_meet_41 : decode (mC M_X6_meet) 41 = .ok (.iadd, 1) := by decide +kernel
theorem dX6_meet_42 : decode (mC M_X6_meet) 42 = .ok (.iastore, 1) := by decide +kernel
theorem dX6_meet_43 : decode (mC M_X6_meet) 43 = .ok (.aload_n 0, 1) := by decide +kernel
theorem dX6_meet_44 : decode (mC M_X6_meet) 44 = .ok (.dup, 1) := by decide +kernel
theorem dX6_meet_45 : decode (mC M_X6_meet) 45 = .ok (.getfield 25, 3) := by decide +kernel
theorem dX6_meet_48 : decode (mC M_X6_meet) 48 = .ok (.iconst 1, 1) := by decide +kernel
theorem dX6_meet_49 : decode (mC M_X6_meet) 49 = .ok (.iadd, 1) := by decide +kernel
theorem dX6_meet_50 : decode (mC M_X6_meet) 50 = .ok (.putfield 25, 3) := by decide +kernel
theorem dX6_meet_53 : decode (mC M_X6_meet) 53 = .ok (.iload_n 1, 1) := by decide +kernel
theorem dX6_meet_54 : decode (mC M_X6_meet) 54 = .ok (.ifCond .ne 16, 3) := by decide +kernel
theorem dX6_meet_57 : decode (mC M_X6_meet) 57 = .ok (.aload_n 0, 1) := by decide +kernel
theorem dX6_meet_58 : decode (mC M_X6_meet) 58 = .ok (.getfield 29, 3) := by decide +kernel
theorem dX6_meet_61 : decode (mC M_X6_meet) 61 = .ok (.iconst (-1), 1) := by decide +kernel
theorem dX6_meet_62 : decode (mC M_X6_meet) 62 = .ok (.if_icmp .ne 8, 3) := by decide +kernel
theorem dX6_meet_65 : decode (mC M_X6_meet) 65 = .ok (.aload_n 0, 1) := by decide +kernel
theorem dX6_meet_66 : decode (mC M_X6_meet) 66 = .ok (.iload_n 2, 1) := by decide +kernel
theorem dX6_meet_67 : decode (mC M_X6_meet) 67 = .ok (.putfield 29, 3) := by decide +kernel
theorem dX6_meet_70 : decode (mC M_X6_meet) 70 = .ok (.return_, 1) := by decide +kernel
theorem dX6_roll_0 : decode (mC M_X6_roll) 0 = .ok (.aload_n 0, 1) := by decide +kernel
theorem dX6_roll_1 : decode (mC M_X6_roll) 1 = .ok (.getfield 9, 3) := by decide +kernel
theorem dX6_roll_4 : decode (mC M_X6_roll) 4 = .ok (.iload_n 1, 1) := by decide +kernel
theorem dX6_roll_5 : decode (mC M_X6_roll) 5 = .ok (.iaload, 1) := by decide +kernel
theorem dX6_roll_6 : decode (mC M_X6_roll) 6 = .ok (.istore_n 3, 1) := by decide +kernel
theorem dX6_roll_7 : decode (mC M_X6_roll) 7 = .ok (.aload_n 0, 1) := by decide +kernel
theorem dX6_roll_8 : decode (mC M_X6_roll) 8 = .ok (.getfield 18, 3) := by decide +kernel
theorem dX6_roll_11 : decode (mC M_X6_roll) 11 = .ok (.iload_n 1, 1) := by decide +kernel
theorem dX6_roll_12 : decode (mC M_X6_roll) 12 = .ok (.dup2, 1) := by decide +kernel
theorem dX6_roll_13 : decode (mC M_X6_roll) 13 = .ok (.iaload, 1) := by decide +kernel
theorem dX6_roll_14 : decode (mC M_X6_roll) 14 = .ok (.iconst 1, 1) := by decide +kernel
theorem dX6_roll_15 : decode (mC M_X6_roll) 15 = .ok (.isub, 1) := by decide +kernel
theorem dX6_roll_16 : decode (mC M_X6_roll) 16 = .ok (.iastore, 1) := by decide +kernel
theorem dX6_roll_17 : decode (mC M_X6_roll) 17 = .ok (.aload_n 0, 1) := by decide +kernel
theorem dX6_roll_18 : decode (mC M_X6_roll) 18 = .ok (.getfield 21, 3) := by decide +kernel
theorem dX6_roll_21 : decode (mC M_X6_roll) 21 = .ok (.iload_n 1, 1) := by decide +kernel
theorem dX6_roll_22 : decode (mC M_X6_roll) 22 = .ok (.iload_n 2, 1) := by decide +kernel
theorem dX6_roll_23 : decode (mC M_X6_roll) 23 = .ok (.invokestatic 64, 3) := by decide +kernel
theorem dX6_roll_26 : decode (mC M_X6_roll) 26 = .ok (.bastore, 1) := by decide +kernel
theorem dX6_roll_27 : decode (mC M_X6_roll) 27 = .ok (.aload_n 0, 1) := by decide +kernel
theorem dX6_roll_28 : decode (mC M_X6_roll) 28 = .ok (.getfield 9, 3) := by decide +kernel
theorem dX6_roll_31 : decode (mC M_X6_roll) 31 = .ok (.iload_n 1, 1) := by decide +kernel
theorem dX6_roll_32 : decode (mC M_X6_roll) 32 = .ok (.aload_n 0, 1) := by decide +kernel
theorem dX6_roll_33 : decode (mC M_X6_roll) 33 = .ok (.getfield 21, 3) := by decide +kernel
theorem dX6_roll_36 : decode (mC M_X6_roll) 36 = .ok (.iload_n 1, 1) := by decide +kernel
theorem dX6_roll_37 : decode (mC M_X6_roll) 37 = .ok (.baload, 1) := by decide +kernel
theorem dX6_roll_38 : decode (mC M_X6_roll) 38 = .ok (.ifCond .eq 7, 3) := by decide +kernel
theorem dX6_roll_41 : decode (mC M_X6_roll) 41 = .ok (.iconst (-1), 1) := by decide +kernel
theorem dX6_roll_42 : decode (mC M_X6_roll) 42 = .ok (.goto 4, 3) := by decide +kernel
theorem dX6_roll_45 : decode (mC M_X6_roll) 45 = .ok (.iload_n 2, 1) := by decide +kernel
theorem dX6_roll_46 : decode (mC M_X6_roll) 46 = .ok (.iastore, 1) := by decide +kernel
theorem dX6_roll_47 : decode (mC M_X6_roll) 47 = .ok (.aload_n 0, 1) := by decide +kernel
theorem dX6_roll_48 : decode (mC M_X6_roll) 48 = .ok (.iload_n 1, 1) := by decide +kernel
theorem dX6_roll_49 : decode (mC M_X6_roll) 49 = .ok (.iload_n 3, 1) := by decide +kernel
theorem dX6_roll_50 : decode (mC M_X6_roll) 50 = .ok (.aload_n 0, 1) := by decide +kernel
theorem dX6_roll_51 : decode (mC M_X6_roll) 51 = .ok (.getfield 9, 3) := by decide +kernel
theorem dX6_roll_54 : decode (mC M_X6_roll) 54 = .ok (.iload_n 1, 1) := by decide +kernel
theorem dX6_roll_55 : decode (mC M_X6_roll) 55 = .ok (.iaload, 1) := by decide +kernel
theorem dX6_roll_56 : decode (mC M_X6_roll) 56 = .ok (.invokevirtual 67, 3) := by decide +kernel
theorem dX6_roll_59 : decode (mC M_X6_roll) 59 = .ok (.return_, 1) := by decide +kernel
theorem dX7_init_0 : decode (mC M_X7_init) 0 = .ok (.aload_n 0, 1) := by decide +kernel
theorem dX7_init_1 : decode (mC M_X7_init) 1 = .ok (.invokespecial 3, 3) := by decide +kernel
theorem dX7_init_4 : decode (mC M_X7_init) 4 = .ok (.aload_n 0, 1) := by decide +kernel
theorem dX7_init_5 : decode (mC M_X7_init) 5 = .ok (.iconst (-1), 1) := by decide +kernel
theorem dX7_init_6 : decode (mC M_X7_init) 6 = .ok (.putfield 9, 3) := by decide +kernel
theorem dX7_init_9 : decode (mC M_X7_init) 9 = .ok (.aload_n 0, 1) := by decide +kernel
theorem dX7_init_10 : decode (mC M_X7_init) 10 = .ok (.iload_n 1, 1) := by decide +kernel
theorem dX7_init_11 : decode (mC M_X7_init) 11 = .ok (.putfield 15, 3) := by decide +kernel
theorem dX7_init_14 : decode (mC M_X7_init) 14 = .ok (.aload_n 0, 1) := by decide +kernel
theorem dX7_init_15 : decode (mC M_X7_init) 15 = .ok (.iload_n 2, 1) := by decide +kernel
theorem dX7_init_16 : decode (mC M_X7_init) 16 = .ok (.putfield 18, 3) := by decide +kernel
theorem dX7_init_19 : decode (mC M_X7_init) 19 = .ok (.return_, 1) := by decide +kernel
theorem dX7_close_0 : decode (mC M_X7_close) 0 = .ok (.aload_n 0, 1) := by decide +kernel
theorem dX7_close_1 : decode (mC M_X7_close) 1 = .ok (.iload_n 1, 1) := by decide +kernel
theorem dX7_close_2 : decode (mC M_X7_close) 2 = .ok (.putfield 9, 3) := by decide +kernel
theorem dX7_close_5 : decode (mC M_X7_close) 5 = .ok (.return_, 1) := by decide +kernel
theorem dX7_minutesWithin_0 : decode (mC M_X7_minutesWithin) 0 = .ok (.aload_n 0, 1) := by decide +kernel
theorem dX7_minutesWithin_1 : decode (mC M_X7_minutesWithin) 1 = .ok (.getfield 9, 3) := by decide +kernel
theorem dX7_minutesWithin_4 : decode (mC M_X7_minutesWithin) 4 = .ok (.iconst (-1), 1) := by decide +kernel
theorem dX7_minutesWithin_5 : decode (mC M_X7_minutesWithin) 5 = .ok (.if_icmp .ne 7, 3) := by decide +kernel
theorem dX7_minutesWithin_8 : decode (mC M_X7_minutesWithin) 8 = .ok (.iload_n 2, 1) := by decide +kernel
theorem dX7_minutesWithin_9 : decode (mC M_X7_minutesWithin) 9 = .ok (.goto 11, 3) := by decide +kernel
theorem dX7_minutesWithin_12 : decode (mC M_X7_minutesWithin) 12 = .ok (.aload_n 0, 1) := by decide +kernel
theorem dX7_minutesWithin_13 : decode (mC M_X7_minutesWithin) 13 = .ok (.getfield 9, 3) := by decide +kernel
theorem dX7_minutesWithin_16 : decode (mC M_X7_minutesWithin) 16 = .ok (.iload_n 2, 1) := by decide +kernel
theorem dX7_minutesWithin_17 : decode (mC M_X7_minutesWithin) 17 = .ok (.invokestatic 21, 3) := by decide +kernel
theorem dX7_minutesWithin_20 : decode (mC M_X7_minutesWithin) 20 = .ok (.istore_n 3, 1) := by decide +kernel
theorem dX7_minutesWithin_21 : decode (mC M_X7_minutesWithin) 21 = .ok (.iconst 0, 1) := by decide +kernel
theorem dX7_minutesWithin_22 : decode (mC M_X7_minutesWithin) 22 = .ok (.iload_n 3, 1) := by decide +kernel
theorem dX7_minutesWithin_23 : decode (mC M_X7_minutesWithin) 23 = .ok (.aload_n 0, 1) := by decide +kernel
theorem dX7_minutesWithin_24 : decode (mC M_X7_minutesWithin) 24 = .ok (.getfield 18, 3) := by decide +kernel
theorem dX7_minutesWithin_27 : decode (mC M_X7_minutesWithin) 27 = .ok (.iload_n 1, 1) := by decide +kernel
theorem dX7_minutesWithin_28 : decode (mC M_X7_minutesWithin) 28 = .ok (.invokestatic 27, 3) := by decide +kernel
theorem dX7_minutesWithin_31 : decode (mC M_X7_minutesWithin) 31 = .ok (.isub, 1) := by decide +kernel
theorem dX7_minutesWithin_32 : decode (mC M_X7_minutesWithin) 32 = .ok (.invokestatic 27, 3) := by decide +kernel
theorem dX7_minutesWithin_35 : decode (mC M_X7_minutesWithin) 35 = .ok (.ireturn, 1) := by decide +kernel
theorem dX8_init_0 : decode (mC M_X8_init) 0 = .ok (.aload_n 0, 1) := by decide +kernel
theorem dX8_init_1 : decode (mC M_X8_init) 1 = .ok (.invokespecial 1, 3) := by decide +kernel
theorem dX8_init_4 : decode (mC M_X8_init) 4 = .ok (.aload_n 0, 1) := by decide +kernel
theorem dX8_init_5 : decode (mC M_X8_init) 5 = .ok (.iconst 1, 1) := by decide +kernel
theorem dX8_init_6 : decode (mC M_X8_init) 6 = .ok (.putfield 7, 3) := by decide +kernel
theorem dX8_init_9 : decode (mC M_X8_init) 9 = .ok (.return_, 1) := by decide +kernel
theorem dX8_isRentedBy_0 : decode (mC M_X8_isRentedBy) 0 = .ok (.aload_n 0, 1) := by decide +kernel
theorem dX8_isRentedBy_1 : decode (mC M_X8_isRentedBy) 1 = .ok (.getfield 13, 3) := by decide +kernel
theorem dX8_isRentedBy_4 : decode (mC M_X8_isRentedBy) 4 = .ok (.ifnull 18, 3) := by decide +kernel
theorem dX8_isRentedBy_7 : decode (mC M_X8_isRentedBy) 7 = .ok (.aload_n 0, 1) := by decide +kernel
theorem dX8_isRentedBy_8 : decode (mC M_X8_isRentedBy) 8 = .ok (.getfield 13, 3) := by decide +kernel
theorem dX8_isRentedBy_11 : decode (mC M_X8_isRentedBy) 11 = .ok (.getfield 17, 3) := by decide +kernel
theorem dX8_isRentedBy_14 : decode (mC M_X8_isRentedBy) 14 = .ok (.iload_n 1, 1) := by decide +kernel
theorem dX8_isRentedBy_15 : decode (mC M_X8_isRentedBy) 15 = .ok (.if_icmp .ne 7, 3) := by decide +kernel
theorem dX8_isRentedBy_18 : decode (mC M_X8_isRentedBy) 18 = .ok (.iconst 1, 1) := by decide +kernel
theorem dX8_isRentedBy_19 : decode (mC M_X8_isRentedBy) 19 = .ok (.goto 4, 3) := by decide +kernel
theorem dX8_isRentedBy_22 : decode (mC M_X8_isRentedBy) 22 = .ok (.iconst 0, 1) := by decide +kernel
theorem dX8_isRentedBy_23 : decode (mC M_X8_isRentedBy) 23 = .ok (.ireturn, 1) := by decide +kernel
theorem dX8_isCounting_0 : decode (mC M_X8_isCounting) 0 = .ok (.aload_n 0, 1) := by decide +kernel
theorem dX8_isCounting_1 : decode (mC M_X8_isCounting) 1 = .ok (.getfield 13, 3) := by decide +kernel
theorem dX8_isCounting_4 : decode (mC M_X8_isCounting) 4 = .ok (.ifnull 24, 3) := by decide +kernel
theorem dX8_isCounting_7 : decode (mC M_X8_isCounting) 7 = .ok (.aload_n 0, 1) := by decide +kernel
theorem dX8_isCounting_8 : decode (mC M_X8_isCounting) 8 = .ok (.getfield 23, 3) := by decide +kernel
theorem dX8_isCounting_11 : decode (mC M_X8_isCounting) 11 = .ok (.ifnull 13, 3) := by decide +kernel
theorem dX8_isCounting_14 : decode (mC M_X8_isCounting) 14 = .ok (.aload_n 0, 1) := by decide +kernel
theorem dX8_isCounting_15 : decode (mC M_X8_isCounting) 15 = .ok (.getfield 23, 3) := by decide +kernel
theorem dX8_isCounting_18 : decode (mC M_X8_isCounting) 18 = .ok (.getfield 27, 3) := by decide +kernel
theorem dX8_isCounting_21 : decode (mC M_X8_isCounting) 21 = .ok (.ifCond .ne 7, 3) := by decide +kernel
theorem dX8_isCounting_24 : decode (mC M_X8_isCounting) 24 = .ok (.iconst 1, 1) := by decide +kernel
theorem dX8_isCounting_25 : decode (mC M_X8_isCounting) 25 = .ok (.goto 4, 3) := by decide +kernel
theorem dX8_isCounting_28 : decode (mC M_X8_isCounting) 28 = .ok (.iconst 0, 1) := by decide +kernel
theorem dX8_isCounting_29 : decode (mC M_X8_isCounting) 29 = .ok (.ireturn, 1) := by decide +kernel
theorem dX9_init_0 : decode (mC M_X9_init) 0 = .ok (.aload_n 0, 1) := by decide +kernel
theorem dX9_init_1 : decode (mC M_X9_init) 1 = .ok (.invokespecial 1, 3) := by decide +kernel
theorem dX9_init_4 : decode (mC M_X9_init) 4 = .ok (.aload_n 0, 1) := by decide +kernel
theorem dX9_init_5 : decode (mC M_X9_init) 5 = .ok (.iconst 4, 1) := by decide +kernel
theorem dX9_init_6 : decode (mC M_X9_init) 6 = .ok (.anewarray 9, 3) := by decide +kernel
theorem dX9_init_9 : decode (mC M_X9_init) 9 = .ok (.putfield 11, 3) := by decide +kernel
theorem dX9_init_12 : decode (mC M_X9_init) 12 = .ok (.aload_n 0, 1) := by decide +kernel
theorem dX9_init_13 : decode (mC M_X9_init) 13 = .ok (.bipush 6, 2) := by decide +kernel
theorem dX9_init_15 : decode (mC M_X9_init) 15 = .ok (.anewarray 15, 3) := by decide +kernel
theorem dX9_init_18 : decode (mC M_X9_init) 18 = .ok (.putfield 17, 3) := by decide +kernel
theorem dX9_init_21 : decode (mC M_X9_init) 21 = .ok (.aload_n 0, 1) := by decide +kernel
theorem dX9_init_22 : decode (mC M_X9_init) 22 = .ok (.bipush 20, 2) := by decide +kernel
theorem dX9_init_24 : decode (mC M_X9_init) 24 = .ok (.anewarray 21, 3) := by decide +kernel
theorem dX9_init_27 : decode (mC M_X9_init) 27 = .ok (.putfield 23, 3) := by decide +kernel
theorem dX9_init_30 : decode (mC M_X9_init) 30 = .ok (.aload_n 0, 1) := by decide +kernel
theorem dX9_init_31 : decode (mC M_X9_init) 31 = .ok (.sipush 512, 3) := by decide +kernel
theorem dX9_init_34 : decode (mC M_X9_init) 34 = .ok (.anewarray 27, 3) := by decide +kernel
theorem dX9_init_37 : decode (mC M_X9_init) 37 = .ok (.putfield 29, 3) := by decide +kernel
theorem dX9_init_40 : decode (mC M_X9_init) 40 = .ok (.aload_n 0, 1) := by decide +kernel
theorem dX9_init_41 : decode (mC M_X9_init) 41 = .ok (.sipush 512, 3) := by decide +kernel
theorem dX9_init_44 : decode (mC M_X9_init) 44 = .ok (.anewarray 33, 3) := by decide +kernel
theorem dX9_init_47 : decode (mC M_X9_init) 47 = .ok (.putfield 35, 3) := by decide +kernel
theorem dX9_init_50 : decode (mC M_X9_init) 50 = .ok (.aload_n 0, 1) := by decide +kernel
theorem dX9_init_51 : decode (mC M_X9_init) 51 = .ok (.sipush 512, 3) := by decide +kernel
theorem dX9_init_54 : decode (mC M_X9_init) 54 = .ok (.anewarray 39, 3) := by decide +kernel
theorem dX9_init_57 : decode (mC M_X9_init) 57 = .ok (.putfield 41, 3) := by decide +kernel
theorem dX9_init_60 : decode (mC M_X9_init) 60 = .ok (.aload_n 0, 1) := by decide +kernel
theorem dX9_init_61 : decode (mC M_X9_init) 61 = .ok (.bipush 8, 2) := by decide +kernel
theorem dX9_init_63 : decode (mC M_X9_init) 63 = .ok (.newarray .int, 2) := by decide +kernel
theorem dX9_init_65 : decode (mC M_X9_init) 65 = .ok (.putfield 45, 3) := by decide +kernel
theorem dX9_init_68 : decode (mC M_X9_init) 68 = .ok (.aload_n 0, 1) := by decide +kernel
theorem dX9_init_69 : decode (mC M_X9_init) 69 = .ok (.bipush 8, 2) := by decide +kernel
theorem dX9_init_71 : decode (mC M_X9_init) 71 = .ok (.newarray .int, 2) := by decide +kernel
theorem dX9_init_73 : decode (mC M_X9_init) 73 = .ok (.putfield 49, 3) := by decide +kernel
theorem dX9_init_76 : decode (mC M_X9_init) 76 = .ok (.aload_n 0, 1) := by decide +kernel
theorem dX9_init_77 : decode (mC M_X9_init) 77 = .ok (.new 52, 3) := by decide +kernel
theorem dX9_init_80 : decode (mC M_X9_init) 80 = .ok (.dup, 1) := by decide +kernel
theorem dX9_init_81 : decode (mC M_X9_init) 81 = .ok (.invokespecial 54, 3) := by decide +kernel
theorem dX9_init_84 : decode (mC M_X9_init) 84 = .ok (.putfield 55, 3) := by decide +kernel
theorem dX9_init_87 : decode (mC M_X9_init) 87 = .ok (.aload_n 0, 1) := by decide +kernel
theorem dX9_init_88 : decode (mC M_X9_init) 88 = .ok (.new 59, 3) := by decide +kernel
theorem dX9_init_91 : decode (mC M_X9_init) 91 = .ok (.dup, 1) := by decide +kernel
theorem dX9_init_92 : decode (mC M_X9_init) 92 = .ok (.invokespecial 61, 3) := by decide +kernel
theorem dX9_init_95 : decode (mC M_X9_init) 95 = .ok (.putfield 62, 3) := by decide +kernel
theorem dX9_init_98 : decode (mC M_X9_init) 98 = .ok (.aload_n 0, 1) := by decide +kernel
theorem dX9_init_99 : decode (mC M_X9_init) 99 = .ok (.bipush 6, 2) := by decide +kernel
theorem dX9_init_101 : decode (mC M_X9_init) 101 = .ok (.putfield 65, 3) := by decide +kernel
theorem dX9_init_104 : decode (mC M_X9_init) 104 = .ok (.iconst 0, 1) := by decide +kernel
theorem dX9_init_105 : decode (mC M_X9_init) 105 = .ok (.istore_n 1, 1) := by decide +kernel
theorem dX9_init_106 : decode (mC M_X9_init) 106 = .ok (.iload_n 1, 1) := by decide +kernel
theorem dX9_init_107 : decode (mC M_X9_init) 107 = .ok (.iconst 4, 1) := by decide +kernel
theorem dX9_init_108 : decode (mC M_X9_init) 108 = .ok (.if_icmp .ge 22, 3) := by decide +kernel
theorem dX9_init_111 : decode (mC M_X9_init) 111 = .ok (.aload_n 0, 1) := by decide +kernel
theorem dX9_init_112 : decode (mC M_X9_init) 112 = .ok (.getfield 11, 3) := by decide +kernel
theorem dX9_init_115 : decode (mC M_X9_init) 115 = .ok (.iload_n 1, 1) := by decide +kernel
theorem dX9_init_116 : decode (mC M_X9_init) 116 = .ok (.new 9, 3) := by decide +kernel
theorem dX9_init_119 : decode (mC M_X9_init) 119 = .ok (.dup, 1) := by decide +kernel
theorem dX9_init_120 : decode (mC M_X9_init) 120 = .ok (.invokespecial 69, 3) := by decide +kernel
theorem dX9_init_123 : decode (mC M_X9_init) 123 = .ok (.aastore, 1) := by decide +kernel
theorem dX9_init_124 : decode (mC M_X9_init) 124 = .ok (.iinc 1 1, 3) := by decide +kernel
theorem dX9_init_127 : decode (mC M_X9_init) 127 = .ok (.goto (-21), 3) := by decide +kernel
theorem dX9_init_130 : decode (mC M_X9_init) 130 = .ok (.iconst 0, 1) := by decide +kernel
theorem dX9_init_131 : decode (mC M_X9_init) 131 = .ok (.istore_n 1, 1) := by decide +kernel
theorem dX9_init_132 : decode (mC M_X9_init) 132 = .ok (.iload_n 1, 1) := by decide +kernel
theorem dX9_init_133 : decode (mC M_X9_init) 133 = .ok (.bipush 6, 2) := by decide +kernel
theorem dX9_init_135 : decode (mC M_X9_init) 135 = .ok (.if_icmp .ge 22, 3) := by decide +kernel
theorem dX9_init_138 : decode (mC M_X9_init) 138 = .ok (.aload_n 0, 1) := by decide +kernel
theorem dX9_init_139 : decode (mC M_X9_init) 139 = .ok (.getfield 17, 3) := by decide +kernel
theorem dX9_init_142 : decode (mC M_X9_init) 142 = .ok (.iload_n 1, 1) := by decide +kernel
theorem dX9_init_143 : decode (mC M_X9_init) 143 = .ok (.new 15, 3) := by decide +kernel
theorem dX9_init_146 : decode (mC M_X9_init) 146 = .ok (.dup, 1) := by decide +kernel
theorem dX9_init_147 : decode (mC M_X9_init) 147 = .ok (.invokespecial 70, 3) := by decide +kernel
theorem dX9_init_150 : decode (mC M_X9_init) 150 = .ok (.aastore, 1) := by decide +kernel
theorem dX9_init_151 : decode (mC M_X9_init) 151 = .ok (.iinc 1 1, 3) := by decide +kernel
theorem dX9_init_154 : decode (mC M_X9_init) 154 = .ok (.goto (-22), 3) := by decide +kernel
theorem dX9_init_157 : decode (mC M_X9_init) 157 = .ok (.return_, 1) := by decide +kernel
theorem dX9_setPrice_0 : decode (mC M_X9_setPrice) 0 = .ok (.iload_n 1, 1) := by decide +kernel
theorem dX9_setPrice_1 : decode (mC M_X9_setPrice) 1 = .ok (.iconst 0, 1) := by decide +kernel
theorem dX9_setPrice_2 : decode (mC M_X9_setPrice) 2 = .ok (.bipush 50, 2) := by decide +kernel
theorem dX9_setPrice_4 : decode (mC M_X9_setPrice) 4 = .ok (.invokestatic 71, 3) := by decide +kernel
theorem dX9_setPrice_7 : decode (mC M_X9_setPrice) 7 = .ok (.aload_n 0, 1) := by decide +kernel
theorem dX9_setPrice_8 : decode (mC M_X9_setPrice) 8 = .ok (.getfield 65, 3) := by decide +kernel
theorem dX9_setPrice_11 : decode (mC M_X9_setPrice) 11 = .ok (.istore_n 2, 1) := by decide +kernel
theorem dX9_setPrice_12 : decode (mC M_X9_setPrice) 12 = .ok (.aload_n 0, 1) := by decide +kernel
theorem dX9_setPrice_13 : decode (mC M_X9_setPrice) 13 = .ok (.iload_n 1, 1) := by decide +kernel
theorem dX9_setPrice_14 : decode (mC M_X9_setPrice) 14 = .ok (.putfield 65, 3) := by decide +kernel
theorem dX9_setPrice_17 : decode (mC M_X9_setPrice) 17 = .ok (.iload_n 2, 1) := by decide +kernel
theorem dX9_setPrice_18 : decode (mC M_X9_setPrice) 18 = .ok (.ireturn, 1) := by decide +kernel
theorem dX9_rent_0 : decode (mC M_X9_rent) 0 = .ok (.aload_n 0, 1) := by decide +kernel
theorem dX9_rent_1 : decode (mC M_X9_rent) 1 = .ok (.iload_n 1, 1) := by decide +kernel
theorem dX9_rent_2 : decode (mC M_X9_rent) 2 = .ok (.invokevirtual 75, 3) := by decide +kernel
theorem dX9_rent_5 : decode (mC M_X9_rent) 5 = .ok (.astore_n 3, 1) := by decide +kernel
theorem dX9_rent_6 : decode (mC M_X9_rent) 6 = .ok (.iload_n 2, 1) := by decide +kernel
theorem dX9_rent_7 : decode (mC M_X9_rent) 7 = .ok (.invokestatic 79, 3) := by decide +kernel
theorem dX9_rent_10 : decode (mC M_X9_rent) 10 = .ok (.aload_n 3, 1) := by decide +kernel
theorem dX9_rent_11 : decode (mC M_X9_rent) 11 = .ok (.getfield 83, 3) := by decide +kernel
theorem dX9_rent_14 : decode (mC M_X9_rent) 14 = .ok (.ifCond .eq 18, 3) := by decide +kernel
theorem dX9_rent_17 : decode (mC M_X9_rent) 17 = .ok (.aload_n 3, 1) := by decide +kernel
theorem dX9_rent_18 : decode (mC M_X9_rent) 18 = .ok (.getfield 87, 3) := by decide +kernel
theorem dX9_rent_21 : decode (mC M_X9_rent) 21 = .ok (.ifnonnull 11, 3) := by decide +kernel
theorem dX9_rent_24 : decode (mC M_X9_rent) 24 = .ok (.aload_n 0, 1) := by decide +kernel
theorem dX9_rent_25 : decode (mC M_X9_rent) 25 = .ok (.iload_n 2, 1) := by decide +kernel
theorem dX9_rent_26 : decode (mC M_X9_rent) 26 = .ok (.invokevirtual 91, 3) := by decide +kernel
theorem dX9_rent_29 : decode (mC M_X9_rent) 29 = .ok (.ifCond .eq 13, 3) := by decide +kernel
theorem dX9_rent_32 : decode (mC M_X9_rent) 32 = .ok (.new 95, 3) := by decide +kernel
theorem dX9_rent_35 : decode (mC M_X9_rent) 35 = .ok (.dup, 1) := by decide +kernel
theorem dX9_rent_36 : decode (mC M_X9_rent) 36 = .ok (.ldc 97, 2) := by decide +kernel
theorem dX9_rent_38 : decode (mC M_X9_rent) 38 = .ok (.invokespecial 99, 3) := by decide +kernel
theorem dX9_rent_41 : decode (mC M_X9_rent) 41 = .ok (.athrow, 1) := by decide +kernel
theorem dX9_rent_42 : decode (mC M_X9_rent) 42 = .ok (.new 27, 3) := by decide +kernel
theorem dX9_rent_45 : decode (mC M_X9_rent) 45 = .ok (.dup, 1) := by decide +kernel
theorem dX9_rent_46 : decode (mC M_X9_rent) 46 = .ok (.iload_n 1, 1) := by decide +kernel
theorem dX9_rent_47 : decode (mC M_X9_rent) 47 = .ok (.iload_n 2, 1) := by decide +kernel
theorem dX9_rent_48 : decode (mC M_X9_rent) 48 = .ok (.aload_n 0, 1) := by decide +kernel
theorem dX9_rent_49 : decode (mC M_X9_rent) 49 = .ok (.getfield 102, 3) := by decide +kernel
theorem dX9_rent_52 : decode (mC M_X9_rent) 52 = .ok (.invokespecial 105, 3) := by decide +kernel
theorem dX9_rent_55 : decode (mC M_X9_rent) 55 = .ok (.astore 4, 2) := by decide +kernel
theorem dX9_rent_57 : decode (mC M_X9_rent) 57 = .ok (.aload_n 3, 1) := by decide +kernel
theorem dX9_rent_58 : decode (mC M_X9_rent) 58 = .ok (.aload 4, 2) := by decide +kernel
theorem dX9_rent_60 : decode (mC M_X9_rent) 60 = .ok (.putfield 87, 3) := by decide +kernel
theorem dX9_rent_63 : decode (mC M_X9_rent) 63 = .ok (.aload_n 3, 1) := by decide +kernel
theorem dX9_rent_64 : decode (mC M_X9_rent) 64 = .ok (.iconst 0, 1) := by decide +kernel
theorem dX9_rent_65 : decode (mC M_X9_rent) 65 = .ok (.putfield 107, 3) := by decide +kernel
theorem dX9_rent_68 : decode (mC M_X9_rent) 68 = .ok (.aload_n 0, 1) := by decide +kernel
theorem dX9_rent_69 : decode (mC M_X9_rent) 69 = .ok (.getfield 110, 3) := by decide +kernel
theorem dX9_rent_72 : decode (mC M_X9_rent) 72 = .ok (.aload_n 0, 1) := by decide +kernel
theorem dX9_rent_73 : decode (mC M_X9_rent) 73 = .ok (.getfield 29, 3) := by decide +kernel
theorem dX9_rent_76 : decode (mC M_X9_rent) 76 = .ok (.arraylength, 1) := by decide +kernel
theorem dX9_rent_77 : decode (mC M_X9_rent) 77 = .ok (.if_icmp .ge 24, 3) := by decide +kernel
theorem dX9_rent_80 : decode (mC M_X9_rent) 80 = .ok (.aload_n 0, 1) := by decide +kernel
theorem dX9_rent_81 : decode (mC M_X9_rent) 81 = .ok (.getfield 29, 3) := by decide +kernel
theorem dX9_rent_84 : decode (mC M_X9_rent) 84 = .ok (.aload_n 0, 1) := by decide +kernel
theorem dX9_rent_85 : decode (mC M_X9_rent) 85 = .ok (.getfield 110, 3) := by decide +kernel
theorem dX9_rent_88 : decode (mC M_X9_rent) 88 = .ok (.aload 4, 2) := by decide +kernel
theorem dX9_rent_90 : decode (mC M_X9_rent) 90 = .ok (.aastore, 1) := by decide +kernel
theorem dX9_rent_91 : decode (mC M_X9_rent) 91 = .ok (.aload_n 0, 1) := by decide +kernel
theorem dX9_rent_92 : decode (mC M_X9_rent) 92 = .ok (.dup, 1) := by decide +kernel
theorem dX9_rent_93 : decode (mC M_X9_rent) 93 = .ok (.getfield 110, 3) := by decide +kernel
theorem dX9_rent_96 : decode (mC M_X9_rent) 96 = .ok (.iconst 1, 1) := by decide +kernel
theorem dX9_rent_97 : decode (mC M_X9_rent) 97 = .ok (.iadd, 1) := by decide +kernel
theorem dX9_rent_98 : decode (mC M_X9_rent) 98 = .ok (.putfield 110, 3) := by decide +kernel
theorem dX9_rent_101 : decode (mC M_X9_rent) 101 = .ok (.aload_n 0, 1) := by decide +kernel
theorem dX9_rent_102 : decode (mC M_X9_rent) 102 = .ok (.invokevirtual 113, 3) := by decide +kernel
theorem dX9_rent_105 : decode (mC M_X9_rent) 105 = .ok (.ireturn, 1) := by decide +kernel
theorem dX9_end_0 : decode (mC M_X9_end) 0 = .ok (.aload_n 0, 1) := by decide +kernel
theorem dX9_end_1 : decode (mC M_X9_end) 1 = .ok (.iload_n 1, 1) := by decide +kernel
theorem dX9_end_2 : decode (mC M_X9_end) 2 = .ok (.invokevirtual 75, 3) := by decide +kernel
theorem dX9_end_5 : decode (mC M_X9_end) 5 = .ok (.astore_n 2, 1) := by decide +kernel
theorem dX9_end_6 : decode (mC M_X9_end) 6 = .ok (.aload_n 2, 1) := by decide +kernel
theorem dX9_end_7 : decode (mC M_X9_end) 7 = .ok (.getfield 87, 3) := by decide +kernel
theorem dX9_end_10 : decode (mC M_X9_end) 10 = .ok (.ifnonnull 13, 3) := by decide +kernel
theorem dX9_end_13 : decode (mC M_X9_end) 13 = .ok (.new 95, 3) := by decide +kernel
theorem dX9_end_16 : decode (mC M_X9_end) 16 = .ok (.dup, 1) := by decide +kernel
theorem dX9_end_17 : decode (mC M_X9_end) 17 = .ok (.ldc 117, 2) := by decide +kernel
theorem dX9_end_19 : decode (mC M_X9_end) 19 = .ok (.invokespecial 99, 3) := by decide +kernel
theorem dX9_end_22 : decode (mC M_X9_end) 22 = .ok (.athrow, 1) := by decide +kernel
theorem dX9_end_23 : decode (mC M_X9_end) 23 = .ok (.aload_n 0, 1) := by decide +kernel
theorem dX9_end_24 : decode (mC M_X9_end) 24 = .ok (.aload_n 2, 1) := by decide +kernel
theorem dX9_end_25 : decode (mC M_X9_end) 25 = .ok (.invokevirtual 119, 3) := by decide +kernel
theorem dX9_end_28 : decode (mC M_X9_end) 28 = .ok (.ireturn, 1) := by decide +kernel
theorem dX9_tear_0 : decode (mC M_X9_tear) 0 = .ok (.aload_n 0, 1) := by decide +kernel
theorem dX9_tear_1 : decode (mC M_X9_tear) 1 = .ok (.iload_n 1, 1) := by decide +kernel
theorem dX9_tear_2 : decode (mC M_X9_tear) 2 = .ok (.invokevirtual 75, 3) := by decide +kernel
theorem dX9_tear_5 : decode (mC M_X9_tear) 5 = .ok (.astore_n 2, 1) := by decide +kernel
theorem dX9_tear_6 : decode (mC M_X9_tear) 6 = .ok (.aload_n 2, 1) := by decide +kernel
theorem dX9_tear_7 : decode (mC M_X9_tear) 7 = .ok (.getfield 83, 3) := by decide +kernel
theorem dX9_tear_10 : decode (mC M_X9_tear) 10 = .ok (.ifCond .ne 13, 3) := by decide +kernel
theorem dX9_tear_13 : decode (mC M_X9_tear) 13 = .ok (.new 95, 3) := by decide +kernel
theorem dX9_tear_16 : decode (mC M_X9_tear) 16 = .ok (.dup, 1) := by decide +kernel
theorem dX9_tear_17 : decode (mC M_X9_tear) 17 = .ok (.ldc 123, 2) := by decide +kernel
theorem dX9_tear_19 : decode (mC M_X9_tear) 19 = .ok (.invokespecial 99, 3) := by decide +kernel
theorem dX9_tear_22 : decode (mC M_X9_tear) 22 = .ok (.athrow, 1) := by decide +kernel
theorem dX9_tear_23 : decode (mC M_X9_tear) 23 = .ok (.aload_n 0, 1) := by decide +kernel
theorem dX9_tear_24 : decode (mC M_X9_tear) 24 = .ok (.aload_n 2, 1) := by decide +kernel
theorem dX9_tear_25 : decode (mC M_X9_tear) 25 = .ok (.invokevirtual 119, 3) := by decide +kernel
theorem dX9_tear_28 : decode (mC M_X9_tear) 28 = .ok (.istore_n 3, 1) := by decide +kernel
theorem dX9_tear_29 : decode (mC M_X9_tear) 29 = .ok (.aload_n 0, 1) := by decide +kernel
theorem dX9_tear_30 : decode (mC M_X9_tear) 30 = .ok (.aload_n 2, 1) := by decide +kernel
theorem dX9_tear_31 : decode (mC M_X9_tear) 31 = .ok (.invokevirtual 125, 3) := by decide +kernel
theorem dX9_tear_34 : decode (mC M_X9_tear) 34 = .ok (.aload_n 2, 1) := by decide +kernel
theorem dX9_tear_35 : decode (mC M_X9_tear) 35 = .ok (.iconst 0, 1) := by decide +kernel
theorem dX9_tear_36 : decode (mC M_X9_tear) 36 = .ok (.putfield 83, 3) := by decide +kernel
theorem dX9_tear_39 : decode (mC M_X9_tear) 39 = .ok (.iload_n 3, 1) := by decide +kernel
theorem dX9_tear_40 : decode (mC M_X9_tear) 40 = .ok (.ireturn, 1) := by decide +kernel
theorem dX9_mend_0 : decode (mC M_X9_mend) 0 = .ok (.aload_n 0, 1) := by decide +kernel
theorem dX9_mend_1 : decode (mC M_X9_mend) 1 = .ok (.iload_n 1, 1) := by decide +kernel
theorem dX9_mend_2 : decode (mC M_X9_mend) 2 = .ok (.invokevirtual 75, 3) := by decide +kernel
theorem dX9_mend_5 : decode (mC M_X9_mend) 5 = .ok (.astore_n 2, 1) := by decide +kernel
theorem dX9_mend_6 : decode (mC M_X9_mend) 6 = .ok (.aload_n 2, 1) := by decide +kernel
theorem dX9_mend_7 : decode (mC M_X9_mend) 7 = .ok (.getfield 83, 3) := by decide +kernel
theorem dX9_mend_10 : decode (mC M_X9_mend) 10 = .ok (.ifCond .eq 13, 3) := by decide +kernel
theorem dX9_mend_13 : decode (mC M_X9_mend) 13 = .ok (.new 95, 3) := by decide +kernel
theorem dX9_mend_16 : decode (mC M_X9_mend) 16 = .ok (.dup, 1) := by decide +kernel
theorem dX9_mend_17 : decode (mC M_X9_mend) 17 = .ok (.ldc 129, 2) := by decide +kernel
theorem dX9_mend_19 : decode (mC M_X9_mend) 19 = .ok (.invokespecial 99, 3) := by decide +kernel
theorem dX9_mend_22 : decode (mC M_X9_mend) 22 = .ok (.athrow, 1) := by decide +kernel
theorem dX9_mend_23 : decode (mC M_X9_mend) 23 = .ok (.aload_n 2, 1) := by decide +kernel
theorem dX9_mend_24 : decode (mC M_X9_mend) 24 = .ok (.iconst 1, 1) := by decide +kernel
theorem dX9_mend_25 : decode (mC M_X9_mend) 25 = .ok (.putfield 83, 3) := by decide +kernel
theorem dX9_mend_28 : decode (mC M_X9_mend) 28 = .ok (.aload_n 0, 1) := by decide +kernel
theorem dX9_mend_29 : decode (mC M_X9_mend) 29 = .ok (.invokevirtual 131, 3) := by decide +kernel
theorem dX9_mend_32 : decode (mC M_X9_mend) 32 = .ok (.ireturn, 1) := by decide +kernel
theorem dX9_pass_0 : decode (mC M_X9_pass) 0 = .ok (.iload_n 1, 1) := by decide +kernel
theorem dX9_pass_1 : decode (mC M_X9_pass) 1 = .ok (.iconst 1, 1) := by decide +kernel
theorem dX9_pass_2 : decode (mC M_X9_pass) 2 = .ok (.sipush 200, 3) := by decide +kernel
theorem dX9_pass_5 : decode (mC M_X9_pass) 5 = .ok (.invokestatic 71, 3) := by decide +kernel
theorem dX9_pass_8 : decode (mC M_X9_pass) 8 = .ok (.aload_n 0, 1) := by decide +kernel
theorem dX9_pass_9 : decode (mC M_X9_pass) 9 = .ok (.getfield 102, 3) := by decide +kernel
theorem dX9_pass_12 : decode (mC M_X9_pass) 12 = .ok (.iload_n 1, 1) := by decide +kernel
theorem dX9_pass_13 : decode (mC M_X9_pass) 13 = .ok (.iadd, 1) := by decide +kernel
theorem dX9_pass_14 : decode (mC M_X9_pass) 14 = .ok (.sipush 10000, 3) := by decide +kernel
theorem dX9_pass_17 : decode (mC M_X9_pass) 17 = .ok (.if_icmp .le 13, 3) := by decide +kernel
theorem dX9_pass_20 : decode (mC M_X9_pass) 20 = .ok (.new 95, 3) := by decide +kernel
theorem dX9_pass_23 : decode (mC M_X9_pass) 23 = .ok (.dup, 1) := by decide +kernel
theorem dX9_pass_24 : decode (mC M_X9_pass) 24 = .ok (.ldc 134, 2) := by decide +kernel
theorem dX9_pass_26 : decode (mC M_X9_pass) 26 = .ok (.invokespecial 99, 3) := by decide +kernel
theorem dX9_pass_29 : decode (mC M_X9_pass) 29 = .ok (.athrow, 1) := by decide +kernel
theorem dX9_pass_30 : decode (mC M_X9_pass) 30 = .ok (.aload_n 0, 1) := by decide +kernel
theorem dX9_pass_31 : decode (mC M_X9_pass) 31 = .ok (.dup, 1) := by decide +kernel
theorem dX9_pass_32 : decode (mC M_X9_pass) 32 = .ok (.getfield 102, 3) := by decide +kernel
theorem dX9_pass_35 : decode (mC M_X9_pass) 35 = .ok (.iload_n 1, 1) := by decide +kernel
theorem dX9_pass_36 : decode (mC M_X9_pass) 36 = .ok (.iadd, 1) := by decide +kernel
theorem dX9_pass_37 : decode (mC M_X9_pass) 37 = .ok (.putfield 102, 3) := by decide +kernel
theorem dX9_pass_40 : decode (mC M_X9_pass) 40 = .ok (.iconst 0, 1) := by decide +kernel
theorem dX9_pass_41 : decode (mC M_X9_pass) 41 = .ok (.istore_n 2, 1) := by decide +kernel
theorem dX9_pass_42 : decode (mC M_X9_pass) 42 = .ok (.aload_n 0, 1) := by decide +kernel
theorem dX9_pass_43 : decode (mC M_X9_pass) 43 = .ok (.getfield 11, 3) := by decide +kernel
theorem dX9_pass_46 : decode (mC M_X9_pass) 46 = .ok (.astore_n 3, 1) := by decide +kernel
theorem dX9_pass_47 : decode (mC M_X9_pass) 47 = .ok (.aload_n 3, 1) := by decide +kernel
theorem dX9_pass_48 : decode (mC M_X9_pass) 48 = .ok (.arraylength, 1) := by decide +kernel
theorem dX9_pass_49 : decode (mC M_X9_pass) 49 = .ok (.istore 4, 2) := by decide +kernel
theorem dX9_pass_51 : decode (mC M_X9_pass) 51 = .ok (.iconst 0, 1) := by decide +kernel
theorem dX9_pass_52 : decode (mC M_X9_pass) 52 = .ok (.istore 5, 2) := by decide +kernel
theorem dX9_pass_54 : decode (mC M_X9_pass) 54 = .ok (.iload 5, 2) := by decide +kernel
theorem dX9_pass_56 : decode (mC M_X9_pass) 56 = .ok (.iload 4, 2) := by decide +kernel
theorem dX9_pass_58 : decode (mC M_X9_pass) 58 = .ok (.if_icmp .ge 43, 3) := by decide +kernel
theorem dX9_pass_61 : decode (mC M_X9_pass) 61 = .ok (.aload_n 3, 1) := by decide +kernel
theorem dX9_pass_62 : decode (mC M_X9_pass) 62 = .ok (.iload 5, 2) := by decide +kernel
theorem dX9_pass_64 : decode (mC M_X9_pass) 64 = .ok (.aaload, 1) := by decide +kernel
theorem dX9_pass_65 : decode (mC M_X9_pass) 65 = .ok (.astore 6, 2) := by decide +kernel
theorem dX9_pass_67 : decode (mC M_X9_pass) 67 = .ok (.aload 6, 2) := by decide +kernel
theorem dX9_pass_69 : decode (mC M_X9_pass) 69 = .ok (.ifnull 26, 3) := by decide +kernel
theorem dX9_pass_72 : decode (mC M_X9_pass) 72 = .ok (.aload 6, 2) := by decide +kernel
theorem dX9_pass_74 : decode (mC M_X9_pass) 74 = .ok (.invokevirtual 136, 3) := by decide +kernel
theorem dX9_pass_77 : decode (mC M_X9_pass) 77 = .ok (.ifCond .eq 18, 3) := by decide +kernel
theorem dX9_pass_80 : decode (mC M_X9_pass) 80 = .ok (.aload 6, 2) := by decide +kernel
theorem dX9_pass_82 : decode (mC M_X9_pass) 82 = .ok (.dup, 1) := by decide +kernel
theorem dX9_pass_83 : decode (mC M_X9_pass) 83 = .ok (.getfield 107, 3) := by decide +kernel
theorem dX9_pass_86 : decode (mC M_X9_pass) 86 = .ok (.iload_n 1, 1) := by decide +kernel
theorem dX9_pass_87 : decode (mC M_X9_pass) 87 = .ok (.iadd, 1) := by decide +kernel
theorem dX9_pass_88 : decode (mC M_X9_pass) 88 = .ok (.putfield 107, 3) := by decide +kernel
theorem dX9_pass_91 : decode (mC M_X9_pass) 91 = .ok (.iload_n 2, 1) := by decide +kernel
theorem dX9_pass_92 : decode (mC M_X9_pass) 92 = .ok (.iload_n 1, 1) := by decide +kernel
theorem dX9_pass_93 : decode (mC M_X9_pass) 93 = .ok (.iadd, 1) := by decide +kernel
theorem dX9_pass_94 : decode (mC M_X9_pass) 94 = .ok (.istore_n 2, 1) := by decide +kernel
theorem dX9_pass_95 : decode (mC M_X9_pass) 95 = .ok (.iinc 5 1, 3) := by decide +kernel
theorem dX9_pass_98 : decode (mC M_X9_pass) 98 = .ok (.goto (-44), 3) := by decide +kernel
theorem dX9_pass_101 : decode (mC M_X9_pass) 101 = .ok (.iload_n 2, 1) := by decide +kernel
theorem dX9_pass_102 : decode (mC M_X9_pass) 102 = .ok (.ireturn, 1) := by decide +kernel
theorem dX9_begin_0 : decode (mC M_X9_begin) 0 = .ok (.aload_n 0, 1) := by decide +kernel
theorem dX9_begin_1 : decode (mC M_X9_begin) 1 = .ok (.iload_n 1, 1) := by decide +kernel
theorem dX9_begin_2 : decode (mC M_X9_begin) 2 = .ok (.invokevirtual 75, 3) := by decide +kernel
theorem dX9_begin_5 : decode (mC M_X9_begin) 5 = .ok (.astore 5, 2) := by decide +kernel
theorem dX9_begin_7 : decode (mC M_X9_begin) 7 = .ok (.iload_n 2, 1) := by decide +kernel
theorem dX9_begin_8 : decode (mC M_X9_begin) 8 = .ok (.invokestatic 79, 3) := by decide +kernel
theorem dX9_begin_11 : decode (mC M_X9_begin) 11 = .ok (.iload_n 3, 1) := by decide +kernel
theorem dX9_begin_12 : decode (mC M_X9_begin) 12 = .ok (.invokestatic 79, 3) := by decide +kernel
theorem dX9_begin_15 : decode (mC M_X9_begin) 15 = .ok (.iload_n 2, 1) := by decide +kernel
theorem dX9_begin_16 : decode (mC M_X9_begin) 16 = .ok (.iload_n 3, 1) := by decide +kernel
theorem dX9_begin_17 : decode (mC M_X9_begin) 17 = .ok (.if_icmp .ne 13, 3) := by decide +kernel
theorem dX9_begin_20 : decode (mC M_X9_begin) 20 = .ok (.new 140, 3) := by decide +kernel
theorem dX9_begin_23 : decode (mC M_X9_begin) 23 = .ok (.dup, 1) := by decide +kernel
theorem dX9_begin_24 : decode (mC M_X9_begin) 24 = .ok (.ldc 142, 2) := by decide +kernel
theorem dX9_begin_26 : decode (mC M_X9_begin) 26 = .ok (.invokespecial 144, 3) := by decide +kernel
theorem dX9_begin_29 : decode (mC M_X9_begin) 29 = .ok (.athrow, 1) := by decide +kernel
theorem dX9_begin_30 : decode (mC M_X9_begin) 30 = .ok (.aload_n 0, 1) := by decide +kernel
theorem dX9_begin_31 : decode (mC M_X9_begin) 31 = .ok (.getfield 145, 3) := by decide +kernel
theorem dX9_begin_34 : decode (mC M_X9_begin) 34 = .ok (.aload_n 0, 1) := by decide +kernel
theorem dX9_begin_35 : decode (mC M_X9_begin) 35 = .ok (.getfield 23, 3) := by decide +kernel
theorem dX9_begin_38 : decode (mC M_X9_begin) 38 = .ok (.arraylength, 1) := by decide +kernel
theorem dX9_begin_39 : decode (mC M_X9_begin) 39 = .ok (.if_icmp .lt 13, 3) := by decide +kernel
theorem dX9_begin_42 : decode (mC M_X9_begin) 42 = .ok (.new 95, 3) := by decide +kernel
theorem dX9_begin_45 : decode (mC M_X9_begin) 45 = .ok (.dup, 1) := by decide +kernel
theorem dX9_begin_46 : decode (mC M_X9_begin) 46 = .ok (.ldc 148, 2) := by decide +kernel
theorem dX9_begin_48 : decode (mC M_X9_begin) 48 = .ok (.invokespecial 99, 3) := by decide +kernel
theorem dX9_begin_51 : decode (mC M_X9_begin) 51 = .ok (.athrow, 1) := by decide +kernel
theorem dX9_begin_52 : decode (mC M_X9_begin) 52 = .ok (.aload 5, 2) := by decide +kernel
theorem dX9_begin_54 : decode (mC M_X9_begin) 54 = .ok (.iload 4, 2) := by decide +kernel
theorem dX9_begin_56 : decode (mC M_X9_begin) 56 = .ok (.iload_n 2, 1) := by decide +kernel
theorem dX9_begin_57 : decode (mC M_X9_begin) 57 = .ok (.iload_n 3, 1) := by decide +kernel
theorem dX9_begin_58 : decode (mC M_X9_begin) 58 = .ok (.invokestatic 150, 3) := by decide +kernel
theorem dX9_begin_61 : decode (mC M_X9_begin) 61 = .ok (.new 21, 3) := by decide +kernel
theorem dX9_begin_64 : decode (mC M_X9_begin) 64 = .ok (.dup, 1) := by decide +kernel
theorem dX9_begin_65 : decode (mC M_X9_begin) 65 = .ok (.aload_n 0, 1) := by decide +kernel
theorem dX9_begin_66 : decode (mC M_X9_begin) 66 = .ok (.getfield 145, 3) := by decide +kernel
theorem dX9_begin_69 : decode (mC M_X9_begin) 69 = .ok (.iload_n 2, 1) := by decide +kernel
theorem dX9_begin_70 : decode (mC M_X9_begin) 70 = .ok (.iload_n 3, 1) := by decide +kernel
theorem dX9_begin_71 : decode (mC M_X9_begin) 71 = .ok (.iload 4, 2) := by decide +kernel
theorem dX9_begin_73 : decode (mC M_X9_begin) 73 = .ok (.invokespecial 154, 3) := by decide +kernel
theorem dX9_begin_76 : decode (mC M_X9_begin) 76 = .ok (.astore 6, 2) := by decide +kernel
theorem dX9_begin_78 : decode (mC M_X9_begin) 78 = .ok (.aload_n 0, 1) := by decide +kernel
theorem dX9_begin_79 : decode (mC M_X9_begin) 79 = .ok (.getfield 23, 3) := by decide +kernel
theorem dX9_begin_82 : decode (mC M_X9_begin) 82 = .ok (.aload_n 0, 1) := by decide +kernel
theorem dX9_begin_83 : decode (mC M_X9_begin) 83 = .ok (.getfield 145, 3) := by decide +kernel
theorem dX9_begin_86 : decode (mC M_X9_begin) 86 = .ok (.aload 6, 2) := by decide +kernel
theorem dX9_begin_88 : decode (mC M_X9_begin) 88 = .ok (.aastore, 1) := by decide +kernel
theorem dX9_begin_89 : decode (mC M_X9_begin) 89 = .ok (.aload_n 0, 1) := by decide +kernel
theorem dX9_begin_90 : decode (mC M_X9_begin) 90 = .ok (.dup, 1) := by decide +kernel
theorem dX9_begin_91 : decode (mC M_X9_begin) 91 = .ok (.getfield 145, 3) := by decide +kernel
theorem dX9_begin_94 : decode (mC M_X9_begin) 94 = .ok (.iconst 1, 1) := by decide +kernel
theorem dX9_begin_95 : decode (mC M_X9_begin) 95 = .ok (.iadd, 1) := by decide +kernel
theorem dX9_begin_96 : decode (mC M_X9_begin) 96 = .ok (.putfield 145, 3) := by decide +kernel
theorem dX9_begin_99 : decode (mC M_X9_begin) 99 = .ok (.aload_n 0, 1) := by decide +kernel
theorem dX9_begin_100 : decode (mC M_X9_begin) 100 = .ok (.aload 6, 2) := by decide +kernel
theorem dX9_begin_102 : decode (mC M_X9_begin) 102 = .ok (.aload 5, 2) := by decide +kernel
theorem dX9_begin_104 : decode (mC M_X9_begin) 104 = .ok (.iload_n 1, 1) := by decide +kernel
theorem dX9_begin_105 : decode (mC M_X9_begin) 105 = .ok (.invokevirtual 157, 3) := by decide +kernel
theorem dX9_begin_108 : decode (mC M_X9_begin) 108 = .ok (.aload 6, 2) := by decide +kernel
theorem dX9_begin_110 : decode (mC M_X9_begin) 110 = .ok (.getfield 161, 3) := by decide +kernel
theorem dX9_begin_113 : decode (mC M_X9_begin) 113 = .ok (.ireturn, 1) := by decide +kernel
theorem dX9_resume_0 : decode (mC M_X9_resume) 0 = .ok (.aload_n 0, 1) := by decide +kernel
theorem dX9_resume_1 : decode (mC M_X9_resume) 1 = .ok (.iload_n 1, 1) := by decide +kernel
theorem dX9_resume_2 : decode (mC M_X9_resume) 2 = .ok (.invokevirtual 164, 3) := by decide +kernel
theorem dX9_resume_5 : decode (mC M_X9_resume) 5 = .ok (.astore_n 3, 1) := by decide +kernel
theorem dX9_resume_6 : decode (mC M_X9_resume) 6 = .ok (.aload_n 0, 1) := by decide +kernel
theorem dX9_resume_7 : decode (mC M_X9_resume) 7 = .ok (.iload_n 2, 1) := by decide +kernel
theorem dX9_resume_8 : decode (mC M_X9_resume) 8 = .ok (.invokevirtual 75, 3) := by decide +kernel
theorem dX9_resume_11 : decode (mC M_X9_resume) 11 = .ok (.astore 4, 2) := by decide +kernel
theorem dX9_resume_13 : decode (mC M_X9_resume) 13 = .ok (.aload_n 3, 1) := by decide +kernel
theorem dX9_resume_14 : decode (mC M_X9_resume) 14 = .ok (.invokevirtual 168, 3) := by decide +kernel
theorem dX9_resume_17 : decode (mC M_X9_resume) 17 = .ok (.ifCond .ne 13, 3) := by decide +kernel
theorem dX9_resume_20 : decode (mC M_X9_resume) 20 = .ok (.new 95, 3) := by decide +kernel
theorem dX9_resume_23 : decode (mC M_X9_resume) 23 = .ok (.dup, 1) := by decide +kernel
theorem dX9_resume_24 : decode (mC M_X9_resume) 24 = .ok (.ldc 171, 2) := by decide +kernel
theorem dX9_resume_26 : decode (mC M_X9_resume) 26 = .ok (.invokespecial 99, 3) := by decide +kernel
theorem dX9_resume_29 : decode (mC M_X9_resume) 29 = .ok (.athrow, 1) := by decide +kernel
theorem dX9_resume_30 : decode (mC M_X9_resume) 30 = .ok (.aload 4, 2) := by decide +kernel
theorem dX9_resume_32 : decode (mC M_X9_resume) 32 = .ok (.aload_n 3, 1) := by decide +kernel
theorem dX9_resume_33 : decode (mC M_X9_resume) 33 = .ok (.getfield 173, 3) := by decide +kernel
theorem dX9_resume_36 : decode (mC M_X9_resume) 36 = .ok (.aload_n 3, 1) := by decide +kernel
theorem dX9_resume_37 : decode (mC M_X9_resume) 37 = .ok (.getfield 176, 3) := by decide +kernel
theorem dX9_resume_40 : decode (mC M_X9_resume) 40 = .ok (.aload_n 3, 1) := by decide +kernel
theorem dX9_resume_41 : decode (mC M_X9_resume) 41 = .ok (.getfield 179, 3) := by decide +kernel
theorem dX9_resume_44 : decode (mC M_X9_resume) 44 = .ok (.invokestatic 150, 3) := by decide +kernel
theorem dX9_resume_47 : decode (mC M_X9_resume) 47 = .ok (.aload_n 0, 1) := by decide +kernel
theorem dX9_resume_48 : decode (mC M_X9_resume) 48 = .ok (.aload_n 3, 1) := by decide +kernel
theorem dX9_resume_49 : decode (mC M_X9_resume) 49 = .ok (.aload 4, 2) := by decide +kernel
theorem dX9_resume_51 : decode (mC M_X9_resume) 51 = .ok (.iload_n 2, 1) := by decide +kernel
theorem dX9_resume_52 : decode (mC M_X9_resume) 52 = .ok (.invokevirtual 157, 3) := by decide +kernel
theorem dX9_resume_55 : decode (mC M_X9_resume) 55 = .ok (.aload_n 3, 1) := by decide +kernel
theorem dX9_resume_56 : decode (mC M_X9_resume) 56 = .ok (.invokevirtual 182, 3) := by decide +kernel
theorem dX9_resume_59 : decode (mC M_X9_resume) 59 = .ok (.ireturn, 1) := by decide +kernel
theorem dX9_shoot_0 : decode (mC M_X9_shoot) 0 = .ok (.aload_n 0, 1) := by decide +kernel
theorem dX9_shoot_1 : decode (mC M_X9_shoot) 1 = .ok (.iload_n 1, 1) := by decide +kernel
theorem dX9_shoot_2 : decode (mC M_X9_shoot) 2 = .ok (.invokevirtual 164, 3) := by decide +kernel
theorem dX9_shoot_5 : decode (mC M_X9_shoot) 5 = .ok (.astore 4, 2) := by decide +kernel
theorem dX9_shoot_7 : decode (mC M_X9_shoot) 7 = .ok (.iload_n 2, 1) := by decide +kernel
theorem dX9_shoot_8 : decode (mC M_X9_shoot) 8 = .ok (.iconst 0, 1) := by decide +kernel
theorem dX9_shoot_9 : decode (mC M_X9_shoot) 9 = .ok (.bipush 7, 2) := by decide +kernel
theorem dX9_shoot_11 : decode (mC M_X9_shoot) 11 = .ok (.invokestatic 71, 3) := by decide +kernel
theorem dX9_shoot_14 : decode (mC M_X9_shoot) 14 = .ok (.iload_n 3, 1) := by decide +kernel
theorem dX9_shoot_15 : decode (mC M_X9_shoot) 15 = .ok (.iconst 1, 1) := by decide +kernel
theorem dX9_shoot_16 : decode (mC M_X9_shoot) 16 = .ok (.bipush 40, 2) := by decide +kernel
theorem dX9_shoot_18 : decode (mC M_X9_shoot) 18 = .ok (.invokestatic 71, 3) := by decide +kernel
theorem dX9_shoot_21 : decode (mC M_X9_shoot) 21 = .ok (.aload 4, 2) := by decide +kernel
theorem dX9_shoot_23 : decode (mC M_X9_shoot) 23 = .ok (.getfield 185, 3) := by decide +kernel
theorem dX9_shoot_26 : decode (mC M_X9_shoot) 26 = .ok (.ifnonnull 13, 3) := by decide +kernel
theorem dX9_shoot_29 : decode (mC M_X9_shoot) 29 = .ok (.new 95, 3) := by decide +kernel
theorem dX9_shoot_32 : decode (mC M_X9_shoot) 32 = .ok (.dup, 1) := by decide +kernel
theorem dX9_shoot_33 : decode (mC M_X9_shoot) 33 = .ok (.ldc 189, 2) := by decide +kernel
theorem dX9_shoot_35 : decode (mC M_X9_shoot) 35 = .ok (.invokespecial 99, 3) := by decide +kernel
theorem dX9_shoot_38 : decode (mC M_X9_shoot) 38 = .ok (.athrow, 1) := by decide +kernel
theorem dX9_shoot_39 : decode (mC M_X9_shoot) 39 = .ok (.aload_n 0, 1) := by decide +kernel
theorem dX9_shoot_40 : decode (mC M_X9_shoot) 40 = .ok (.aload 4, 2) := by decide +kernel
theorem dX9_shoot_42 : decode (mC M_X9_shoot) 42 = .ok (.invokevirtual 182, 3) := by decide +kernel
theorem dX9_shoot_45 : decode (mC M_X9_shoot) 45 = .ok (.invokevirtual 191, 3) := by decide +kernel
theorem dX9_shoot_48 : decode (mC M_X9_shoot) 48 = .ok (.astore 5, 2) := by decide +kernel
theorem dX9_shoot_50 : decode (mC M_X9_shoot) 50 = .ok (.aload_n 0, 1) := by decide +kernel
theorem dX9_shoot_51 : decode (mC M_X9_shoot) 51 = .ok (.getfield 55, 3) := by decide +kernel
theorem dX9_shoot_54 : decode (mC M_X9_shoot) 54 = .ok (.aload 4, 2) := by decide +kernel
theorem dX9_shoot_56 : decode (mC M_X9_shoot) 56 = .ok (.getfield 195, 3) := by decide +kernel
theorem dX9_shoot_59 : decode (mC M_X9_shoot) 59 = .ok (.iload_n 2, 1) := by decide +kernel
theorem dX9_shoot_60 : decode (mC M_X9_shoot) 60 = .ok (.aload 5, 2) := by decide +kernel
theorem dX9_shoot_62 : decode (mC M_X9_shoot) 62 = .ok (.iload_n 3, 1) := by decide +kernel
theorem dX9_shoot_63 : decode (mC M_X9_shoot) 63 = .ok (.invokestatic 198, 3) := by decide +kernel
theorem dX9_shoot_66 : decode (mC M_X9_shoot) 66 = .ok (.invokevirtual 202, 3) := by decide +kernel
theorem dX9_shoot_69 : decode (mC M_X9_shoot) 69 = .ok (.aload 5, 2) := by decide +kernel
theorem dX9_shoot_71 : decode (mC M_X9_shoot) 71 = .ok (.ifnull 9, 3) := by decide +kernel
theorem dX9_shoot_74 : decode (mC M_X9_shoot) 74 = .ok (.aload 5, 2) := by decide +kernel
theorem dX9_shoot_76 : decode (mC M_X9_shoot) 76 = .ok (.iload_n 3, 1) := by decide +kernel
theorem dX9_shoot_77 : decode (mC M_X9_shoot) 77 = .ok (.invokevirtual 208, 3) := by decide +kernel
theorem dX9_shoot_80 : decode (mC M_X9_shoot) 80 = .ok (.aload 4, 2) := by decide +kernel
theorem dX9_shoot_82 : decode (mC M_X9_shoot) 82 = .ok (.aload_n 0, 1) := by decide +kernel
theorem dX9_shoot_83 : decode (mC M_X9_shoot) 83 = .ok (.getfield 55, 3) := by decide +kernel
theorem dX9_shoot_86 : decode (mC M_X9_shoot) 86 = .ok (.invokevirtual 211, 3) := by decide +kernel
theorem dX9_shoot_89 : decode (mC M_X9_shoot) 89 = .ok (.istore 6, 2) := by decide +kernel
theorem dX9_shoot_91 : decode (mC M_X9_shoot) 91 = .ok (.aload 4, 2) := by decide +kernel
theorem dX9_shoot_93 : decode (mC M_X9_shoot) 93 = .ok (.invokevirtual 215, 3) := by decide +kernel
theorem dX9_shoot_96 : decode (mC M_X9_shoot) 96 = .ok (.ifCond .eq 18, 3) := by decide +kernel
theorem dX9_shoot_99 : decode (mC M_X9_shoot) 99 = .ok (.aload_n 0, 1) := by decide +kernel
theorem dX9_shoot_100 : decode (mC M_X9_shoot) 100 = .ok (.aload 4, 2) := by decide +kernel
theorem dX9_shoot_102 : decode (mC M_X9_shoot) 102 = .ok (.invokevirtual 218, 3) := by decide +kernel
theorem dX9_shoot_105 : decode (mC M_X9_shoot) 105 = .ok (.aload_n 0, 1) := by decide +kernel
theorem dX9_shoot_106 : decode (mC M_X9_shoot) 106 = .ok (.aload 4, 2) := by decide +kernel
theorem dX9_shoot_108 : decode (mC M_X9_shoot) 108 = .ok (.getfield 185, 3) := by decide +kernel
theorem dX9_shoot_111 : decode (mC M_X9_shoot) 111 = .ok (.invokevirtual 125, 3) := by decide +kernel
theorem dX9_shoot_114 : decode (mC M_X9_shoot) 114 = .ok (.iload 6, 2) := by decide +kernel
theorem dX9_shoot_116 : decode (mC M_X9_shoot) 116 = .ok (.ireturn, 1) := by decide +kernel
theorem dX9_lend_0 : decode (mC M_X9_lend) 0 = .ok (.aload_n 0, 1) := by decide +kernel
theorem dX9_lend_1 : decode (mC M_X9_lend) 1 = .ok (.iload_n 1, 1) := by decide +kernel
theorem dX9_lend_2 : decode (mC M_X9_lend) 2 = .ok (.invokevirtual 222, 3) := by decide +kernel
theorem dX9_lend_5 : decode (mC M_X9_lend) 5 = .ok (.astore_n 3, 1) := by decide +kernel
theorem dX9_lend_6 : decode (mC M_X9_lend) 6 = .ok (.iload_n 2, 1) := by decide +kernel
theorem dX9_lend_7 : decode (mC M_X9_lend) 7 = .ok (.invokestatic 79, 3) := by decide +kernel
theorem dX9_lend_10 : decode (mC M_X9_lend) 10 = .ok (.aload_n 3, 1) := by decide +kernel
theorem dX9_lend_11 : decode (mC M_X9_lend) 11 = .ok (.getfield 225, 3) := by decide +kernel
theorem dX9_lend_14 : decode (mC M_X9_lend) 14 = .ok (.ifnonnull 11, 3) := by decide +kernel
theorem dX9_lend_17 : decode (mC M_X9_lend) 17 = .ok (.aload_n 0, 1) := by decide +kernel
theorem dX9_lend_18 : decode (mC M_X9_lend) 18 = .ok (.iload_n 2, 1) := by decide +kernel
theorem dX9_lend_19 : decode (mC M_X9_lend) 19 = .ok (.invokevirtual 191, 3) := by decide +kernel
theorem dX9_lend_22 : decode (mC M_X9_lend) 22 = .ok (.ifnull 13, 3) := by decide +kernel
theorem dX9_lend_25 : decode (mC M_X9_lend) 25 = .ok (.new 95, 3) := by decide +kernel
theorem dX9_lend_28 : decode (mC M_X9_lend) 28 = .ok (.dup, 1) := by decide +kernel
theorem dX9_lend_29 : decode (mC M_X9_lend) 29 = .ok (.ldc 229, 2) := by decide +kernel
theorem dX9_lend_31 : decode (mC M_X9_lend) 31 = .ok (.invokespecial 99, 3) := by decide +kernel
theorem dX9_lend_34 : decode (mC M_X9_lend) 34 = .ok (.athrow, 1) := by decide +kernel
theorem dX9_lend_35 : decode (mC M_X9_lend) 35 = .ok (.new 39, 3) := by decide +kernel
theorem dX9_lend_38 : decode (mC M_X9_lend) 38 = .ok (.dup, 1) := by decide +kernel
theorem dX9_lend_39 : decode (mC M_X9_lend) 39 = .ok (.iload_n 2, 1) := by decide +kernel
theorem dX9_lend_40 : decode (mC M_X9_lend) 40 = .ok (.aload_n 3, 1) := by decide +kernel
theorem dX9_lend_41 : decode (mC M_X9_lend) 41 = .ok (.getfield 231, 3) := by decide +kernel
theorem dX9_lend_44 : decode (mC M_X9_lend) 44 = .ok (.invokespecial 234, 3) := by decide +kernel
theorem dX9_lend_47 : decode (mC M_X9_lend) 47 = .ok (.astore 4, 2) := by decide +kernel
theorem dX9_lend_49 : decode (mC M_X9_lend) 49 = .ok (.aload_n 3, 1) := by decide +kernel
theorem dX9_lend_50 : decode (mC M_X9_lend) 50 = .ok (.aload 4, 2) := by decide +kernel
theorem dX9_lend_52 : decode (mC M_X9_lend) 52 = .ok (.putfield 225, 3) := by decide +kernel
theorem dX9_lend_55 : decode (mC M_X9_lend) 55 = .ok (.aload_n 0, 1) := by decide +kernel
theorem dX9_lend_56 : decode (mC M_X9_lend) 56 = .ok (.getfield 237, 3) := by decide +kernel
theorem dX9_lend_59 : decode (mC M_X9_lend) 59 = .ok (.aload_n 0, 1) := by decide +kernel
theorem dX9_lend_60 : decode (mC M_X9_lend) 60 = .ok (.getfield 41, 3) := by decide +kernel
theorem dX9_lend_63 : decode (mC M_X9_lend) 63 = .ok (.arraylength, 1) := by decide +kernel
theorem dX9_lend_64 : decode (mC M_X9_lend) 64 = .ok (.if_icmp .ge 24, 3) := by decide +kernel
theorem dX9_lend_67 : decode (mC M_X9_lend) 67 = .ok (.aload_n 0, 1) := by decide +kernel
theorem dX9_lend_68 : decode (mC M_X9_lend) 68 = .ok (.getfield 41, 3) := by decide +kernel
theorem dX9_lend_71 : decode (mC M_X9_lend) 71 = .ok (.aload_n 0, 1) := by decide +kernel
theorem dX9_lend_72 : decode (mC M_X9_lend) 72 = .ok (.getfield 237, 3) := by decide +kernel
theorem dX9_lend_75 : decode (mC M_X9_lend) 75 = .ok (.aload 4, 2) := by decide +kernel
theorem dX9_lend_77 : decode (mC M_X9_lend) 77 = .ok (.aastore, 1) := by decide +kernel
theorem dX9_lend_78 : decode (mC M_X9_lend) 78 = .ok (.aload_n 0, 1) := by decide +kernel
theorem dX9_lend_79 : decode (mC M_X9_lend) 79 = .ok (.dup, 1) := by decide +kernel
theorem dX9_lend_80 : decode (mC M_X9_lend) 80 = .ok (.getfield 237, 3) := by decide +kernel
theorem dX9_lend_83 : decode (mC M_X9_lend) 83 = .ok (.iconst 1, 1) := by decide +kernel
theorem dX9_lend_84 : decode (mC M_X9_lend) 84 = .ok (.iadd, 1) := by decide +kernel
theorem dX9_lend_85 : decode (mC M_X9_lend) 85 = .ok (.putfield 237, 3) := by decide +kernel
theorem dX9_lend_88 : decode (mC M_X9_lend) 88 = .ok (.aload_n 0, 1) := by decide +kernel
theorem dX9_lend_89 : decode (mC M_X9_lend) 89 = .ok (.iload_n 2, 1) := by decide +kernel
theorem dX9_lend_90 : decode (mC M_X9_lend) 90 = .ok (.bipush 20, 2) := by decide +kernel
theorem dX9_lend_92 : decode (mC M_X9_lend) 92 = .ok (.invokevirtual 240, 3) := by decide +kernel
theorem dX9_lend_95 : decode (mC M_X9_lend) 95 = .ok (.aload_n 3, 1) := by decide +kernel
theorem dX9_lend_96 : decode (mC M_X9_lend) 96 = .ok (.getfield 231, 3) := by decide +kernel
theorem dX9_lend_99 : decode (mC M_X9_lend) 99 = .ok (.ireturn, 1) := by decide +kernel
theorem dX9_takeBack_0 : decode (mC M_X9_takeBack) 0 = .ok (.aload_n 0, 1) := by decide +kernel
theorem dX9_takeBack_1 : decode (mC M_X9_takeBack) 1 = .ok (.iload_n 1, 1) := by decide +kernel
theorem dX9_takeBack_2 : decode (mC M_X9_takeBack) 2 = .ok (.invokevirtual 222, 3) := by decide +kernel
theorem dX9_takeBack_5 : decode (mC M_X9_takeBack) 5 = .ok (.astore_n 2, 1) := by decide +kernel
theorem dX9_takeBack_6 : decode (mC M_X9_takeBack) 6 = .ok (.aload_n 2, 1) := by decide +kernel
theorem dX9_takeBack_7 : decode (mC M_X9_takeBack) 7 = .ok (.getfield 225, 3) := by decide +kernel
theorem dX9_takeBack_10 : decode (mC M_X9_takeBack) 10 = .ok (.astore_n 3, 1) := by decide +kernel
theorem dX9_takeBack_11 : decode (mC M_X9_takeBack) 11 = .ok (.aload_n 3, 1) := by decide +kernel
theorem dX9_takeBack_12 : decode (mC M_X9_takeBack) 12 = .ok (.ifnonnull 13, 3) := by decide +kernel
theorem dX9_takeBack_15 : decode (mC M_X9_takeBack) 15 = .ok (.new 95, 3) := by decide +kernel
theorem dX9_takeBack_18 : decode (mC M_X9_takeBack) 18 = .ok (.dup, 1) := by decide +kernel
theorem dX9_takeBack_19 : decode (mC M_X9_takeBack) 19 = .ok (.ldc 243, 2) := by decide +kernel
theorem dX9_takeBack_21 : decode (mC M_X9_takeBack) 21 = .ok (.invokespecial 99, 3) := by decide +kernel
theorem dX9_takeBack_24 : decode (mC M_X9_takeBack) 24 = .ok (.athrow, 1) := by decide +kernel
theorem dX9_takeBack_25 : decode (mC M_X9_takeBack) 25 = .ok (.aload_n 3, 1) := by decide +kernel
theorem dX9_takeBack_26 : decode (mC M_X9_takeBack) 26 = .ok (.aload_n 2, 1) := by decide +kernel
theorem dX9_takeBack_27 : decode (mC M_X9_takeBack) 27 = .ok (.getfield 231, 3) := by decide +kernel
theorem dX9_takeBack_30 : decode (mC M_X9_takeBack) 30 = .ok (.invokevirtual 245, 3) := by decide +kernel
theorem dX9_takeBack_33 : decode (mC M_X9_takeBack) 33 = .ok (.aload_n 2, 1) := by decide +kernel
theorem dX9_takeBack_34 : decode (mC M_X9_takeBack) 34 = .ok (.aconst_null, 1) := by decide +kernel
theorem dX9_takeBack_35 : decode (mC M_X9_takeBack) 35 = .ok (.putfield 225, 3) := by decide +kernel
theorem dX9_takeBack_38 : decode (mC M_X9_takeBack) 38 = .ok (.bipush 20, 2) := by decide +kernel
theorem dX9_takeBack_40 : decode (mC M_X9_takeBack) 40 = .ok (.aload_n 3, 1) := by decide +kernel
theorem dX9_takeBack_41 : decode (mC M_X9_takeBack) 41 = .ok (.invokevirtual 248, 3) := by decide +kernel
theorem dX9_takeBack_44 : decode (mC M_X9_takeBack) 44 = .ok (.isub, 1) := by decide +kernel
theorem dX9_takeBack_45 : decode (mC M_X9_takeBack) 45 = .ok (.istore 4, 2) := by decide +kernel
theorem dX9_takeBack_47 : decode (mC M_X9_takeBack) 47 = .ok (.aload_n 0, 1) := by decide +kernel
theorem dX9_takeBack_48 : decode (mC M_X9_takeBack) 48 = .ok (.aload_n 3, 1) := by decide +kernel
theorem dX9_takeBack_49 : decode (mC M_X9_takeBack) 49 = .ok (.getfield 251, 3) := by decide +kernel
theorem dX9_takeBack_52 : decode (mC M_X9_takeBack) 52 = .ok (.iload 4, 2) := by decide +kernel
theorem dX9_takeBack_54 : decode (mC M_X9_takeBack) 54 = .ok (.ineg, 1) := by decide +kernel
theorem dX9_takeBack_55 : decode (mC M_X9_takeBack) 55 = .ok (.invokevirtual 240, 3) := by decide +kernel
theorem dX9_takeBack_58 : decode (mC M_X9_takeBack) 58 = .ok (.iload 4, 2) := by decide +kernel
theorem dX9_takeBack_60 : decode (mC M_X9_takeBack) 60 = .ok (.ireturn, 1) := by decide +kernel
theorem dX9_tip_0 : decode (mC M_X9_tip) 0 = .ok (.aload_n 0, 1) := by decide +kernel
theorem dX9_tip_1 : decode (mC M_X9_tip) 1 = .ok (.iload_n 1, 1) := by decide +kernel
theorem dX9_tip_2 : decode (mC M_X9_tip) 2 = .ok (.invokevirtual 222, 3) := by decide +kernel
theorem dX9_tip_5 : decode (mC M_X9_tip) 5 = .ok (.astore_n 2, 1) := by decide +kernel
theorem dX9_tip_6 : decode (mC M_X9_tip) 6 = .ok (.aload_n 2, 1) := by decide +kernel
theorem dX9_tip_7 : decode (mC M_X9_tip) 7 = .ok (.getfield 225, 3) := by decide +kernel
theorem dX9_tip_10 : decode (mC M_X9_tip) 10 = .ok (.ifnull 13, 3) := by decide +kernel
theorem dX9_tip_13 : decode (mC M_X9_tip) 13 = .ok (.new 95, 3) := by decide +kernel
theorem dX9_tip_16 : decode (mC M_X9_tip) 16 = .ok (.dup, 1) := by decide +kernel
theorem dX9_tip_17 : decode (mC M_X9_tip) 17 = .ok (.ldc 254, 2) := by decide +kernel
theorem dX9_tip_19 : decode (mC M_X9_tip) 19 = .ok (.invokespecial 99, 3) := by decide +kernel
theorem dX9_tip_22 : decode (mC M_X9_tip) 22 = .ok (.athrow, 1) := by decide +kernel
theorem dX9_tip_23 : decode (mC M_X9_tip) 23 = .ok (.aload_n 2, 1) := by decide +kernel
theorem dX9_tip_24 : decode (mC M_X9_tip) 24 = .ok (.getfield 231, 3) := by decide +kernel
theorem dX9_tip_27 : decode (mC M_X9_tip) 27 = .ok (.istore_n 3, 1) := by decide +kernel
theorem dX9_tip_28 : decode (mC M_X9_tip) 28 = .ok (.aload_n 2, 1) := by decide +kernel
theorem dX9_tip_29 : decode (mC M_X9_tip) 29 = .ok (.iconst 0, 1) := by decide +kernel
theorem dX9_tip_30 : decode (mC M_X9_tip) 30 = .ok (.putfield 231, 3) := by decide +kernel
theorem dX9_tip_33 : decode (mC M_X9_tip) 33 = .ok (.iload_n 3, 1) := by decide +kernel
theorem dX9_tip_34 : decode (mC M_X9_tip) 34 = .ok (.ireturn, 1) := by decide +kernel
theorem dX9_minute_0 : decode (mC M_X9_minute) 0 = .ok (.aload_n 0, 1) := by decide +kernel
theorem dX9_minute_1 : decode (mC M_X9_minute) 1 = .ok (.getfield 102, 3) := by decide +kernel
theorem dX9_minute_4 : decode (mC M_X9_minute) 4 = .ok (.ireturn, 1) := by decide +kernel
theorem dX9_isOpen_0 : decode (mC M_X9_isOpen) 0 = .ok (.aload_n 0, 1) := by decide +kernel
theorem dX9_isOpen_1 : decode (mC M_X9_isOpen) 1 = .ok (.iload_n 1, 1) := by decide +kernel
theorem dX9_isOpen_2 : decode (mC M_X9_isOpen) 2 = .ok (.invokevirtual 75, 3) := by decide +kernel
theorem dX9_isOpen_5 : decode (mC M_X9_isOpen) 5 = .ok (.getfield 83, 3) := by decide +kernel
theorem dX9_isOpen_8 : decode (mC M_X9_isOpen) 8 = .ok (.ireturn, 1) := by decide +kernel
theorem dX9_renter_0 : decode (mC M_X9_renter) 0 = .ok (.aload_n 0, 1) := by decide +kernel
theorem dX9_renter_1 : decode (mC M_X9_renter) 1 = .ok (.iload_n 1, 1) := by decide +kernel
theorem dX9_renter_2 : decode (mC M_X9_renter) 2 = .ok (.invokevirtual 75, 3) := by decide +kernel
theorem dX9_renter_5 : decode (mC M_X9_renter) 5 = .ok (.getfield 87, 3) := by decide +kernel
theorem dX9_renter_8 : decode (mC M_X9_renter) 8 = .ok (.astore_n 2, 1) := by decide +kernel
theorem dX9_renter_9 : decode (mC M_X9_renter) 9 = .ok (.aload_n 2, 1) := by decide +kernel
theorem dX9_renter_10 : decode (mC M_X9_renter) 10 = .ok (.ifnonnull 7, 3) := by decide +kernel
theorem dX9_renter_13 : decode (mC M_X9_renter) 13 = .ok (.iconst (-1), 1) := by decide +kernel
theorem dX9_renter_14 : decode (mC M_X9_renter) 14 = .ok (.goto 7, 3) := by decide +kernel
theorem dX9_renter_17 : decode (mC M_X9_renter) 17 = .ok (.aload_n 2, 1) := by decide +kernel
theorem dX9_renter_18 : decode (mC M_X9_renter) 18 = .ok (.getfield 256, 3) := by decide +kernel
theorem dX9_renter_21 : decode (mC M_X9_renter) 21 = .ok (.ireturn, 1) := by decide +kernel
theorem dX9_clock_0 : decode (mC M_X9_clock) 0 = .ok (.aload_n 0, 1) := by decide +kernel
theorem dX9_clock_1 : decode (mC M_X9_clock) 1 = .ok (.iload_n 1, 1) := by decide +kernel
theorem dX9_clock_2 : decode (mC M_X9_clock) 2 = .ok (.invokevirtual 75, 3) := by decide +kernel
theorem dX9_clock_5 : decode (mC M_X9_clock) 5 = .ok (.astore_n 2, 1) := by decide +kernel
theorem dX9_clock_6 : decode (mC M_X9_clock) 6 = .ok (.aload_n 2, 1) := by decide +kernel
theorem dX9_clock_7 : decode (mC M_X9_clock) 7 = .ok (.getfield 87, 3) := by decide +kernel
theorem dX9_clock_10 : decode (mC M_X9_clock) 10 = .ok (.ifnonnull 7, 3) := by decide +kernel
theorem dX9_clock_13 : decode (mC M_X9_clock) 13 = .ok (.iconst 0, 1) := by decide +kernel
theorem dX9_clock_14 : decode (mC M_X9_clock) 14 = .ok (.goto 7, 3) := by decide +kernel
theorem dX9_clock_17 : decode (mC M_X9_clock) 17 = .ok (.aload_n 2, 1) := by decide +kernel
theorem dX9_clock_18 : decode (mC M_X9_clock) 18 = .ok (.getfield 107, 3) := by decide +kernel
theorem dX9_clock_21 : decode (mC M_X9_clock) 21 = .ok (.ireturn, 1) := by decide +kernel
theorem dX9_frameOn_0 : decode (mC M_X9_frameOn) 0 = .ok (.aload_n 0, 1) := by decide +kernel
theorem dX9_frameOn_1 : decode (mC M_X9_frameOn) 1 = .ok (.iload_n 1, 1) := by decide +kernel
theorem dX9_frameOn_2 : decode (mC M_X9_frameOn) 2 = .ok (.invokevirtual 75, 3) := by decide +kernel
theorem dX9_frameOn_5 : decode (mC M_X9_frameOn) 5 = .ok (.getfield 257, 3) := by decide +kernel
theorem dX9_frameOn_8 : decode (mC M_X9_frameOn) 8 = .ok (.astore_n 2, 1) := by decide +kernel
theorem dX9_frameOn_9 : decode (mC M_X9_frameOn) 9 = .ok (.aload_n 2, 1) := by decide +kernel
theorem dX9_frameOn_10 : decode (mC M_X9_frameOn) 10 = .ok (.ifnonnull 7, 3) := by decide +kernel
theorem dX9_frameOn_13 : decode (mC M_X9_frameOn) 13 = .ok (.iconst (-1), 1) := by decide +kernel
theorem dX9_frameOn_14 : decode (mC M_X9_frameOn) 14 = .ok (.goto 7, 3) := by decide +kernel
theorem dX9_frameOn_17 : decode (mC M_X9_frameOn) 17 = .ok (.aload_n 2, 1) := by decide +kernel
theorem dX9_frameOn_18 : decode (mC M_X9_frameOn) 18 = .ok (.getfield 161, 3) := by decide +kernel
theorem dX9_frameOn_21 : decode (mC M_X9_frameOn) 21 = .ok (.ireturn, 1) := by decide +kernel
theorem dX9_owes_0 : decode (mC M_X9_owes) 0 = .ok (.iload_n 1, 1) := by decide +kernel
theorem dX9_owes_1 : decode (mC M_X9_owes) 1 = .ok (.invokestatic 79, 3) := by decide +kernel
theorem dX9_owes_4 : decode (mC M_X9_owes) 4 = .ok (.aload_n 0, 1) := by decide +kernel
theorem dX9_owes_5 : decode (mC M_X9_owes) 5 = .ok (.getfield 45, 3) := by decide +kernel
theorem dX9_owes_8 : decode (mC M_X9_owes) 8 = .ok (.iload_n 1, 1) := by decide +kernel
theorem dX9_owes_9 : decode (mC M_X9_owes) 9 = .ok (.iaload, 1) := by decide +kernel
theorem dX9_owes_10 : decode (mC M_X9_owes) 10 = .ok (.ireturn, 1) := by decide +kernel
theorem dX9_owesAnew_0 : decode (mC M_X9_owesAnew) 0 = .ok (.iload_n 1, 1) := by decide +kernel
theorem dX9_owesAnew_1 : decode (mC M_X9_owesAnew) 1 = .ok (.invokestatic 79, 3) := by decide +kernel
theorem dX9_owesAnew_4 : decode (mC M_X9_owesAnew) 4 = .ok (.aload_n 0, 1) := by decide +kernel
theorem dX9_owesAnew_5 : decode (mC M_X9_owesAnew) 5 = .ok (.iload_n 1, 1) := by decide +kernel
theorem dX9_owesAnew_6 : decode (mC M_X9_owesAnew) 6 = .ok (.invokevirtual 261, 3) := by decide +kernel
theorem dX9_owesAnew_9 : decode (mC M_X9_owesAnew) 9 = .ok (.aload_n 0, 1) := by decide +kernel
theorem dX9_owesAnew_10 : decode (mC M_X9_owesAnew) 10 = .ok (.iload_n 1, 1) := by decide +kernel
theorem dX9_owesAnew_11 : decode (mC M_X9_owesAnew) 11 = .ok (.invokevirtual 265, 3) := by decide +kernel
theorem dX9_owesAnew_14 : decode (mC M_X9_owesAnew) 14 = .ok (.iadd, 1) := by decide +kernel
theorem dX9_owesAnew_15 : decode (mC M_X9_owesAnew) 15 = .ok (.ireturn, 1) := by decide +kernel
theorem dX9_frames_0 : decode (mC M_X9_frames) 0 = .ok (.aload_n 0, 1) := by decide +kernel
theorem dX9_frames_1 : decode (mC M_X9_frames) 1 = .ok (.getfield 145, 3) := by decide +kernel
theorem dX9_frames_4 : decode (mC M_X9_frames) 4 = .ok (.ireturn, 1) := by decide +kernel
theorem dX9_state_0 : decode (mC M_X9_state) 0 = .ok (.aload_n 0, 1) := by decide +kernel
theorem dX9_state_1 : decode (mC M_X9_state) 1 = .ok (.iload_n 1, 1) := by decide +kernel
theorem dX9_state_2 : decode (mC M_X9_state) 2 = .ok (.invokevirtual 164, 3) := by decide +kernel
theorem dX9_state_5 : decode (mC M_X9_state) 5 = .ok (.astore_n 2, 1) := by decide +kernel
theorem dX9_state_6 : decode (mC M_X9_state) 6 = .ok (.aload_n 2, 1) := by decide +kernel
theorem dX9_state_7 : decode (mC M_X9_state) 7 = .ok (.invokevirtual 215, 3) := by decide +kernel
theorem dX9_state_10 : decode (mC M_X9_state) 10 = .ok (.ifCond .eq 5, 3) := by decide +kernel
theorem dX9_state_13 : decode (mC M_X9_state) 13 = .ok (.iconst 2, 1) := by decide +kernel
theorem dX9_state_14 : decode (mC M_X9_state) 14 = .ok (.ireturn, 1) := by decide +kernel
theorem dX9_state_15 : decode (mC M_X9_state) 15 = .ok (.aload_n 2, 1) := by decide +kernel
theorem dX9_state_16 : decode (mC M_X9_state) 16 = .ok (.invokevirtual 168, 3) := by decide +kernel
theorem dX9_state_19 : decode (mC M_X9_state) 19 = .ok (.ifCond .eq 7, 3) := by decide +kernel
theorem dX9_state_22 : decode (mC M_X9_state) 22 = .ok (.iconst 1, 1) := by decide +kernel
theorem dX9_state_23 : decode (mC M_X9_state) 23 = .ok (.goto 4, 3) := by decide +kernel
theorem dX9_state_26 : decode (mC M_X9_state) 26 = .ok (.iconst 0, 1) := by decide +kernel
theorem dX9_state_27 : decode (mC M_X9_state) 27 = .ok (.ireturn, 1) := by decide +kernel
theorem dX9_cell_0 : decode (mC M_X9_cell) 0 = .ok (.aload_n 0, 1) := by decide +kernel
theorem dX9_cell_1 : decode (mC M_X9_cell) 1 = .ok (.iload_n 1, 1) := by decide +kernel
theorem dX9_cell_2 : decode (mC M_X9_cell) 2 = .ok (.invokevirtual 164, 3) := by decide +kernel
theorem dX9_cell_5 : decode (mC M_X9_cell) 5 = .ok (.astore_n 3, 1) := by decide +kernel
theorem dX9_cell_6 : decode (mC M_X9_cell) 6 = .ok (.iload_n 2, 1) := by decide +kernel
theorem dX9_cell_7 : decode (mC M_X9_cell) 7 = .ok (.ifCond .lt 12, 3) := by decide +kernel
theorem dX9_cell_10 : decode (mC M_X9_cell) 10 = .ok (.iload_n 2, 1) := by decide +kernel
theorem dX9_cell_11 : decode (mC M_X9_cell) 11 = .ok (.aload_n 3, 1) := by decide +kernel
theorem dX9_cell_12 : decode (mC M_X9_cell) 12 = .ok (.getfield 195, 3) := by decide +kernel
theorem dX9_cell_15 : decode (mC M_X9_cell) 15 = .ok (.arraylength, 1) := by decide +kernel
theorem dX9_cell_16 : decode (mC M_X9_cell) 16 = .ok (.if_icmp .lt 14, 3) := by decide +kernel
theorem dX9_cell_19 : decode (mC M_X9_cell) 19 = .ok (.new 268, 3) := by decide +kernel
theorem dX9_cell_22 : decode (mC M_X9_cell) 22 = .ok (.dup, 1) := by decide +kernel
theorem dX9_cell_23 : decode (mC M_X9_cell) 23 = .ok (.ldc_w 270, 3) := by decide +kernel
theorem dX9_cell_26 : decode (mC M_X9_cell) 26 = .ok (.invokespecial 272, 3) := by decide +kernel
theorem dX9_cell_29 : decode (mC M_X9_cell) 29 = .ok (.athrow, 1) := by decide +kernel
theorem dX9_cell_30 : decode (mC M_X9_cell) 30 = .ok (.aload_n 3, 1) := by decide +kernel
theorem dX9_cell_31 : decode (mC M_X9_cell) 31 = .ok (.getfield 195, 3) := by decide +kernel
theorem dX9_cell_34 : decode (mC M_X9_cell) 34 = .ok (.iload_n 2, 1) := by decide +kernel
theorem dX9_cell_35 : decode (mC M_X9_cell) 35 = .ok (.iaload, 1) := by decide +kernel
theorem dX9_cell_36 : decode (mC M_X9_cell) 36 = .ok (.ireturn, 1) := by decide +kernel
theorem dX9_ballOn_0 : decode (mC M_X9_ballOn) 0 = .ok (.aload_n 0, 1) := by decide +kernel
theorem dX9_ballOn_1 : decode (mC M_X9_ballOn) 1 = .ok (.iload_n 1, 1) := by decide +kernel
theorem dX9_ballOn_2 : decode (mC M_X9_ballOn) 2 = .ok (.invokevirtual 164, 3) := by decide +kernel
theorem dX9_ballOn_5 : decode (mC M_X9_ballOn) 5 = .ok (.invokevirtual 273, 3) := by decide +kernel
theorem dX9_ballOn_8 : decode (mC M_X9_ballOn) 8 = .ok (.ireturn, 1) := by decide +kernel
theorem dX9_isFree_0 : decode (mC M_X9_isFree) 0 = .ok (.aload_n 0, 1) := by decide +kernel
theorem dX9_isFree_1 : decode (mC M_X9_isFree) 1 = .ok (.iload_n 1, 1) := by decide +kernel
theorem dX9_isFree_2 : decode (mC M_X9_isFree) 2 = .ok (.invokevirtual 164, 3) := by decide +kernel
theorem dX9_isFree_5 : decode (mC M_X9_isFree) 5 = .ok (.getfield 276, 3) := by decide +kernel
theorem dX9_isFree_8 : decode (mC M_X9_isFree) 8 = .ok (.ireturn, 1) := by decide +kernel
theorem dX9_turn_0 : decode (mC M_X9_turn) 0 = .ok (.aload_n 0, 1) := by decide +kernel
theorem dX9_turn_1 : decode (mC M_X9_turn) 1 = .ok (.iload_n 1, 1) := by decide +kernel
theorem dX9_turn_2 : decode (mC M_X9_turn) 2 = .ok (.invokevirtual 164, 3) := by decide +kernel
theorem dX9_turn_5 : decode (mC M_X9_turn) 5 = .ok (.astore_n 2, 1) := by decide +kernel
theorem dX9_turn_6 : decode (mC M_X9_turn) 6 = .ok (.aload_n 2, 1) := by decide +kernel
theorem dX9_turn_7 : decode (mC M_X9_turn) 7 = .ok (.invokevirtual 215, 3) := by decide +kernel
theorem dX9_turn_10 : decode (mC M_X9_turn) 10 = .ok (.ifCond .eq 7, 3) := by decide +kernel
theorem dX9_turn_13 : decode (mC M_X9_turn) 13 = .ok (.iconst (-1), 1) := by decide +kernel
theorem dX9_turn_14 : decode (mC M_X9_turn) 14 = .ok (.goto 7, 3) := by decide +kernel
theorem dX9_turn_17 : decode (mC M_X9_turn) 17 = .ok (.aload_n 2, 1) := by decide +kernel
theorem dX9_turn_18 : decode (mC M_X9_turn) 18 = .ok (.invokevirtual 182, 3) := by decide +kernel
theorem dX9_turn_21 : decode (mC M_X9_turn) 21 = .ok (.ireturn, 1) := by decide +kernel
theorem dX9_points_0 : decode (mC M_X9_points) 0 = .ok (.aload_n 0, 1) := by decide +kernel
theorem dX9_points_1 : decode (mC M_X9_points) 1 = .ok (.iload_n 1, 1) := by decide +kernel
theorem dX9_points_2 : decode (mC M_X9_points) 2 = .ok (.invokevirtual 164, 3) := by decide +kernel
theorem dX9_points_5 : decode (mC M_X9_points) 5 = .ok (.astore_n 3, 1) := by decide +kernel
theorem dX9_points_6 : decode (mC M_X9_points) 6 = .ok (.iload_n 2, 1) := by decide +kernel
theorem dX9_points_7 : decode (mC M_X9_points) 7 = .ok (.ifCond .eq 10, 3) := by decide +kernel
theorem dX9_points_10 : decode (mC M_X9_points) 10 = .ok (.aload_n 3, 1) := by decide +kernel
theorem dX9_points_11 : decode (mC M_X9_points) 11 = .ok (.getfield 279, 3) := by decide +kernel
theorem dX9_points_14 : decode (mC M_X9_points) 14 = .ok (.goto 7, 3) := by decide +kernel
theorem dX9_points_17 : decode (mC M_X9_points) 17 = .ok (.aload_n 3, 1) := by decide +kernel
theorem dX9_points_18 : decode (mC M_X9_points) 18 = .ok (.getfield 282, 3) := by decide +kernel
theorem dX9_points_21 : decode (mC M_X9_points) 21 = .ok (.ireturn, 1) := by decide +kernel
theorem dX9_winner_0 : decode (mC M_X9_winner) 0 = .ok (.aload_n 0, 1) := by decide +kernel
theorem dX9_winner_1 : decode (mC M_X9_winner) 1 = .ok (.iload_n 1, 1) := by decide +kernel
theorem dX9_winner_2 : decode (mC M_X9_winner) 2 = .ok (.invokevirtual 164, 3) := by decide +kernel
theorem dX9_winner_5 : decode (mC M_X9_winner) 5 = .ok (.getfield 285, 3) := by decide +kernel
theorem dX9_winner_8 : decode (mC M_X9_winner) 8 = .ok (.ireturn, 1) := by decide +kernel
theorem dX9_contacts_0 : decode (mC M_X9_contacts) 0 = .ok (.aload_n 0, 1) := by decide +kernel
theorem dX9_contacts_1 : decode (mC M_X9_contacts) 1 = .ok (.aload_n 0, 1) := by decide +kernel
theorem dX9_contacts_2 : decode (mC M_X9_contacts) 2 = .ok (.getfield 55, 3) := by decide +kernel
theorem dX9_contacts_5 : decode (mC M_X9_contacts) 5 = .ok (.iload_n 1, 1) := by decide +kernel
theorem dX9_contacts_6 : decode (mC M_X9_contacts) 6 = .ok (.iload_n 2, 1) := by decide +kernel
theorem dX9_contacts_7 : decode (mC M_X9_contacts) 7 = .ok (.iload_n 3, 1) := by decide +kernel
theorem dX9_contacts_8 : decode (mC M_X9_contacts) 8 = .ok (.invokevirtual 288, 3) := by decide +kernel
theorem dX9_contacts_11 : decode (mC M_X9_contacts) 11 = .ok (.ireturn, 1) := by decide +kernel
theorem dX9_contactsByPairs_0 : decode (mC M_X9_contactsByPairs) 0 = .ok (.aload_n 0, 1) := by decide +kernel
theorem dX9_contactsByPairs_1 : decode (mC M_X9_contactsByPairs) 1 = .ok (.aload_n 0, 1) := by decide +kernel
theorem dX9_contactsByPairs_2 : decode (mC M_X9_contactsByPairs) 2 = .ok (.getfield 62, 3) := by decide +kernel
theorem dX9_contactsByPairs_5 : decode (mC M_X9_contactsByPairs) 5 = .ok (.iload_n 1, 1) := by decide +kernel
theorem dX9_contactsByPairs_6 : decode (mC M_X9_contactsByPairs) 6 = .ok (.iload_n 2, 1) := by decide +kernel
theorem dX9_contactsByPairs_7 : decode (mC M_X9_contactsByPairs) 7 = .ok (.iload_n 3, 1) := by decide +kernel
theorem dX9_contactsByPairs_8 : decode (mC M_X9_contactsByPairs) 8 = .ok (.invokevirtual 288, 3) := by decide +kernel
theorem dX9_contactsByPairs_11 : decode (mC M_X9_contactsByPairs) 11 = .ok (.ireturn, 1) := by decide +kernel
theorem dX9_wins_0 : decode (mC M_X9_wins) 0 = .ok (.iload_n 1, 1) := by decide +kernel
theorem dX9_wins_1 : decode (mC M_X9_wins) 1 = .ok (.invokestatic 79, 3) := by decide +kernel
theorem dX9_wins_4 : decode (mC M_X9_wins) 4 = .ok (.aload_n 0, 1) := by decide +kernel
theorem dX9_wins_5 : decode (mC M_X9_wins) 5 = .ok (.getfield 49, 3) := by decide +kernel
theorem dX9_wins_8 : decode (mC M_X9_wins) 8 = .ok (.iload_n 1, 1) := by decide +kernel
theorem dX9_wins_9 : decode (mC M_X9_wins) 9 = .ok (.iaload, 1) := by decide +kernel
theorem dX9_wins_10 : decode (mC M_X9_wins) 10 = .ok (.ireturn, 1) := by decide +kernel
theorem dX9_rank_0 : decode (mC M_X9_rank) 0 = .ok (.iload_n 1, 1) := by decide +kernel
theorem dX9_rank_1 : decode (mC M_X9_rank) 1 = .ok (.invokestatic 79, 3) := by decide +kernel
theorem dX9_rank_4 : decode (mC M_X9_rank) 4 = .ok (.iconst 0, 1) := by decide +kernel
theorem dX9_rank_5 : decode (mC M_X9_rank) 5 = .ok (.istore_n 2, 1) := by decide +kernel
theorem dX9_rank_6 : decode (mC M_X9_rank) 6 = .ok (.aload_n 0, 1) := by decide +kernel
theorem dX9_rank_7 : decode (mC M_X9_rank) 7 = .ok (.getfield 49, 3) := by decide +kernel
theorem dX9_rank_10 : decode (mC M_X9_rank) 10 = .ok (.astore_n 3, 1) := by decide +kernel
theorem dX9_rank_11 : decode (mC M_X9_rank) 11 = .ok (.aload_n 3, 1) := by decide +kernel
theorem dX9_rank_12 : decode (mC M_X9_rank) 12 = .ok (.arraylength, 1) := by decide +kernel
theorem dX9_rank_13 : decode (mC M_X9_rank) 13 = .ok (.istore 4, 2) := by decide +kernel
theorem dX9_rank_15 : decode (mC M_X9_rank) 15 = .ok (.iconst 0, 1) := by decide +kernel
theorem dX9_rank_16 : decode (mC M_X9_rank) 16 = .ok (.istore 5, 2) := by decide +kernel
theorem dX9_rank_18 : decode (mC M_X9_rank) 18 = .ok (.iload 5, 2) := by decide +kernel
theorem dX9_rank_20 : decode (mC M_X9_rank) 20 = .ok (.iload 4, 2) := by decide +kernel
theorem dX9_rank_22 : decode (mC M_X9_rank) 22 = .ok (.if_icmp .ge 29, 3) := by decide +kernel
theorem dX9_rank_25 : decode (mC M_X9_rank) 25 = .ok (.aload_n 3, 1) := by decide +kernel
theorem dX9_rank_26 : decode (mC M_X9_rank) 26 = .ok (.iload 5, 2) := by decide +kernel
theorem dX9_rank_28 : decode (mC M_X9_rank) 28 = .ok (.iaload, 1) := by decide +kernel
theorem dX9_rank_29 : decode (mC M_X9_rank) 29 = .ok (.istore 6, 2) := by decide +kernel
theorem dX9_rank_31 : decode (mC M_X9_rank) 31 = .ok (.iload 6, 2) := by decide +kernel
theorem dX9_rank_33 : decode (mC M_X9_rank) 33 = .ok (.aload_n 0, 1) := by decide +kernel
theorem dX9_rank_34 : decode (mC M_X9_rank) 34 = .ok (.getfield 49, 3) := by decide +kernel
theorem dX9_rank_37 : decode (mC M_X9_rank) 37 = .ok (.iload_n 1, 1) := by decide +kernel
theorem dX9_rank_38 : decode (mC M_X9_rank) 38 = .ok (.iaload, 1) := by decide +kernel
theorem dX9_rank_39 : decode (mC M_X9_rank) 39 = .ok (.if_icmp .le 6, 3) := by decide +kernel
theorem dX9_rank_42 : decode (mC M_X9_rank) 42 = .ok (.iinc 2 1, 3) := by decide +kernel
theorem dX9_rank_45 : decode (mC M_X9_rank) 45 = .ok (.iinc 5 1, 3) := by decide +kernel
theorem dX9_rank_48 : decode (mC M_X9_rank) 48 = .ok (.goto (-30), 3) := by decide +kernel
theorem dX9_rank_51 : decode (mC M_X9_rank) 51 = .ok (.iload_n 2, 1) := by decide +kernel
theorem dX9_rank_52 : decode (mC M_X9_rank) 52 = .ok (.ireturn, 1) := by decide +kernel
theorem dX9_wear_0 : decode (mC M_X9_wear) 0 = .ok (.aload_n 0, 1) := by decide +kernel
theorem dX9_wear_1 : decode (mC M_X9_wear) 1 = .ok (.iload_n 1, 1) := by decide +kernel
theorem dX9_wear_2 : decode (mC M_X9_wear) 2 = .ok (.invokevirtual 222, 3) := by decide +kernel
theorem dX9_wear_5 : decode (mC M_X9_wear) 5 = .ok (.getfield 231, 3) := by decide +kernel
theorem dX9_wear_8 : decode (mC M_X9_wear) 8 = .ok (.ireturn, 1) := by decide +kernel
theorem dX9_cueOf_0 : decode (mC M_X9_cueOf) 0 = .ok (.iload_n 1, 1) := by decide +kernel
theorem dX9_cueOf_1 : decode (mC M_X9_cueOf) 1 = .ok (.invokestatic 79, 3) := by decide +kernel
theorem dX9_cueOf_4 : decode (mC M_X9_cueOf) 4 = .ok (.iconst 0, 1) := by decide +kernel
theorem dX9_cueOf_5 : decode (mC M_X9_cueOf) 5 = .ok (.istore_n 2, 1) := by decide +kernel
theorem dX9_cueOf_6 : decode (mC M_X9_cueOf) 6 = .ok (.iload_n 2, 1) := by decide +kernel
theorem dX9_cueOf_7 : decode (mC M_X9_cueOf) 7 = .ok (.aload_n 0, 1) := by decide +kernel
theorem dX9_cueOf_8 : decode (mC M_X9_cueOf) 8 = .ok (.getfield 17, 3) := by decide +kernel
theorem dX9_cueOf_11 : decode (mC M_X9_cueOf) 11 = .ok (.arraylength, 1) := by decide +kernel
theorem dX9_cueOf_12 : decode (mC M_X9_cueOf) 12 = .ok (.if_icmp .ge 33, 3) := by decide +kernel
theorem dX9_cueOf_15 : decode (mC M_X9_cueOf) 15 = .ok (.aload_n 0, 1) := by decide +kernel
theorem dX9_cueOf_16 : decode (mC M_X9_cueOf) 16 = .ok (.getfield 17, 3) := by decide +kernel
theorem dX9_cueOf_19 : decode (mC M_X9_cueOf) 19 = .ok (.iload_n 2, 1) := by decide +kernel
theorem dX9_cueOf_20 : decode (mC M_X9_cueOf) 20 = .ok (.aaload, 1) := by decide +kernel
theorem dX9_cueOf_21 : decode (mC M_X9_cueOf) 21 = .ok (.ifnull 18, 3) := by decide +kernel
theorem dX9_cueOf_24 : decode (mC M_X9_cueOf) 24 = .ok (.aload_n 0, 1) := by decide +kernel
theorem dX9_cueOf_25 : decode (mC M_X9_cueOf) 25 = .ok (.getfield 17, 3) := by decide +kernel
theorem dX9_cueOf_28 : decode (mC M_X9_cueOf) 28 = .ok (.iload_n 2, 1) := by decide +kernel
theorem dX9_cueOf_29 : decode (mC M_X9_cueOf) 29 = .ok (.aaload, 1) := by decide +kernel
theorem dX9_cueOf_30 : decode (mC M_X9_cueOf) 30 = .ok (.iload_n 1, 1) := by decide +kernel
theorem dX9_cueOf_31 : decode (mC M_X9_cueOf) 31 = .ok (.invokevirtual 292, 3) := by decide +kernel
theorem dX9_cueOf_34 : decode (mC M_X9_cueOf) 34 = .ok (.ifCond .eq 5, 3) := by decide +kernel
theorem dX9_cueOf_37 : decode (mC M_X9_cueOf) 37 = .ok (.iload_n 2, 1) := by decide +kernel
theorem dX9_cueOf_38 : decode (mC M_X9_cueOf) 38 = .ok (.ireturn, 1) := by decide +kernel
theorem dX9_cueOf_39 : decode (mC M_X9_cueOf) 39 = .ok (.iinc 2 1, 3) := by decide +kernel
theorem dX9_cueOf_42 : decode (mC M_X9_cueOf) 42 = .ok (.goto (-36), 3) := by decide +kernel
theorem dX9_cueOf_45 : decode (mC M_X9_cueOf) 45 = .ok (.iconst (-1), 1) := by decide +kernel
theorem dX9_cueOf_46 : decode (mC M_X9_cueOf) 46 = .ok (.ireturn, 1) := by decide +kernel
theorem dX9_force_0 : decode (mC M_X9_force) 0 = .ok (.iload_n 1, 1) := by decide +kernel
theorem dX9_force_1 : decode (mC M_X9_force) 1 = .ok (.invokestatic 79, 3) := by decide +kernel
theorem dX9_force_4 : decode (mC M_X9_force) 4 = .ok (.iload_n 2, 1) := by decide +kernel
theorem dX9_force_5 : decode (mC M_X9_force) 5 = .ok (.iconst 1, 1) := by decide +kernel
theorem dX9_force_6 : decode (mC M_X9_force) 6 = .ok (.bipush 40, 2) := by decide +kernel
theorem dX9_force_8 : decode (mC M_X9_force) 8 = .ok (.invokestatic 71, 3) := by decide +kernel
theorem dX9_force_11 : decode (mC M_X9_force) 11 = .ok (.aload_n 0, 1) := by decide +kernel
theorem dX9_force_12 : decode (mC M_X9_force) 12 = .ok (.iload_n 1, 1) := by decide +kernel
theorem dX9_force_13 : decode (mC M_X9_force) 13 = .ok (.invokevirtual 191, 3) := by decide +kernel
theorem dX9_force_16 : decode (mC M_X9_force) 16 = .ok (.iload_n 2, 1) := by decide +kernel
theorem dX9_force_17 : decode (mC M_X9_force) 17 = .ok (.invokestatic 198, 3) := by decide +kernel
theorem dX9_force_20 : decode (mC M_X9_force) 20 = .ok (.ireturn, 1) := by decide +kernel
theorem dX9_requireRange_0 : decode (mC M_X9_requireRange) 0 = .ok (.iload_n 0, 1) := by decide +kernel
theorem dX9_requireRange_1 : decode (mC M_X9_requireRange) 1 = .ok (.iload_n 1, 1) := by decide +kernel
theorem dX9_requireRange_2 : decode (mC M_X9_requireRange) 2 = .ok (.if_icmp .lt 8, 3) := by decide +kernel
theorem dX9_requireRange_5 : decode (mC M_X9_requireRange) 5 = .ok (.iload_n 0, 1) := by decide +kernel
theorem dX9_requireRange_6 : decode (mC M_X9_requireRange) 6 = .ok (.iload_n 2, 1) := by decide +kernel
theorem dX9_requireRange_7 : decode (mC M_X9_requireRange) 7 = .ok (.if_icmp .le 14, 3) := by decide +kernel
theorem dX9_requireRange_10 : decode (mC M_X9_requireRange) 10 = .ok (.new 140, 3) := by decide +kernel
theorem dX9_requireRange_13 : decode (mC M_X9_requireRange) 13 = .ok (.dup, 1) := by decide +kernel
theorem dX9_requireRange_14 : decode (mC M_X9_requireRange) 14 = .ok (.ldc_w 295, 3) := by decide +kernel
theorem dX9_requireRange_17 : decode (mC M_X9_requireRange) 17 = .ok (.invokespecial 144, 3) := by decide +kernel
theorem dX9_requireRange_20 : decode (mC M_X9_requireRange) 20 = .ok (.athrow, 1) := by decide +kernel
theorem dX9_requireRange_21 : decode (mC M_X9_requireRange) 21 = .ok (.return_, 1) := by decide +kernel
theorem dX9_requireCustomer_0 : decode (mC M_X9_requireCustomer) 0 = .ok (.iload_n 0, 1) := by decide +kernel
theorem dX9_requireCustomer_1 : decode (mC M_X9_requireCustomer) 1 = .ok (.ifCond .lt 9, 3) := by decide +kernel
theorem dX9_requireCustomer_4 : decode (mC M_X9_requireCustomer) 4 = .ok (.iload_n 0, 1) := by decide +kernel
theorem dX9_requireCustomer_5 : decode (mC M_X9_requireCustomer) 5 = .ok (.bipush 8, 2) := by decide +kernel
theorem dX9_requireCustomer_7 : decode (mC M_X9_requireCustomer) 7 = .ok (.if_icmp .lt 14, 3) := by decide +kernel
theorem dX9_requireCustomer_10 : decode (mC M_X9_requireCustomer) 10 = .ok (.new 268, 3) := by decide +kernel
theorem dX9_requireCustomer_13 : decode (mC M_X9_requireCustomer) 13 = .ok (.dup, 1) := by decide +kernel
theorem dX9_requireCustomer_14 : decode (mC M_X9_requireCustomer) 14 = .ok (.ldc_w 297, 3) := by decide +kernel
theorem dX9_requireCustomer_17 : decode (mC M_X9_requireCustomer) 17 = .ok (.invokespecial 272, 3) := by decide +kernel
theorem dX9_requireCustomer_20 : decode (mC M_X9_requireCustomer) 20 = .ok (.athrow, 1) := by decide +kernel
theorem dX9_requireCustomer_21 : decode (mC M_X9_requireCustomer) 21 = .ok (.return_, 1) := by decide +kernel
theorem dX9_tableAt_0 : decode (mC M_X9_tableAt) 0 = .ok (.iload_n 1, 1) := by decide +kernel
theorem dX9_tableAt_1 : decode (mC M_X9_tableAt) 1 = .ok (.ifCond .lt 21, 3) := by decide +kernel
theorem dX9_tableAt_4 : decode (mC M_X9_tableAt) 4 = .ok (.iload_n 1, 1) := by decide +kernel
theorem dX9_tableAt_5 : decode (mC M_X9_tableAt) 5 = .ok (.aload_n 0, 1) := by decide +kernel
theorem dX9_tableAt_6 : decode (mC M_X9_tableAt) 6 = .ok (.getfield 11, 3) := by decide +kernel
theorem dX9_tableAt_9 : decode (mC M_X9_tableAt) 9 = .ok (.arraylength, 1) := by decide +kernel
theorem dX9_tableAt_10 : decode (mC M_X9_tableAt) 10 = .ok (.if_icmp .ge 12, 3) := by decide +kernel
theorem dX9_tableAt_13 : decode (mC M_X9_tableAt) 13 = .ok (.aload_n 0, 1) := by decide +kernel
theorem dX9_tableAt_14 : decode (mC M_X9_tableAt) 14 = .ok (.getfield 11, 3) := by decide +kernel
theorem dX9_tableAt_17 : decode (mC M_X9_tableAt) 17 = .ok (.iload_n 1, 1) := by decide +kernel
theorem dX9_tableAt_18 : decode (mC M_X9_tableAt) 18 = .ok (.aaload, 1) := by decide +kernel
theorem dX9_tableAt_19 : decode (mC M_X9_tableAt) 19 = .ok (.goto 4, 3) := by decide +kernel
theorem dX9_tableAt_22 : decode (mC M_X9_tableAt) 22 = .ok (.aconst_null, 1) := by decide +kernel
theorem dX9_tableAt_23 : decode (mC M_X9_tableAt) 23 = .ok (.astore_n 2, 1) := by decide +kernel
theorem dX9_tableAt_24 : decode (mC M_X9_tableAt) 24 = .ok (.aload_n 2, 1) := by decide +kernel
theorem dX9_tableAt_25 : decode (mC M_X9_tableAt) 25 = .ok (.ifnonnull 14, 3) := by decide +kernel
theorem dX9_tableAt_28 : decode (mC M_X9_tableAt) 28 = .ok (.new 268, 3) := by decide +kernel
theorem dX9_tableAt_31 : decode (mC M_X9_tableAt) 31 = .ok (.dup, 1) := by decide +kernel
theorem dX9_tableAt_32 : decode (mC M_X9_tableAt) 32 = .ok (.ldc_w 299, 3) := by decide +kernel
theorem dX9_tableAt_35 : decode (mC M_X9_tableAt) 35 = .ok (.invokespecial 272, 3) := by decide +kernel
theorem dX9_tableAt_38 : decode (mC M_X9_tableAt) 38 = .ok (.athrow, 1) := by decide +kernel
theorem dX9_tableAt_39 : decode (mC M_X9_tableAt) 39 = .ok (.aload_n 2, 1) := by decide +kernel
theorem dX9_tableAt_40 : decode (mC M_X9_tableAt) 40 = .ok (.areturn, 1) := by decide +kernel
theorem dX9_cueAt_0 : decode (mC M_X9_cueAt) 0 = .ok (.iload_n 1, 1) := by decide +kernel
theorem dX9_cueAt_1 : decode (mC M_X9_cueAt) 1 = .ok (.ifCond .lt 21, 3) := by decide +kernel
theorem dX9_cueAt_4 : decode (mC M_X9_cueAt) 4 = .ok (.iload_n 1, 1) := by decide +kernel
theorem dX9_cueAt_5 : decode (mC M_X9_cueAt) 5 = .ok (.aload_n 0, 1) := by decide +kernel
theorem dX9_cueAt_6 : decode (mC M_X9_cueAt) 6 = .ok (.getfield 17, 3) := by decide +kernel
theorem dX9_cueAt_9 : decode (mC M_X9_cueAt) 9 = .ok (.arraylength, 1) := by decide +kernel
theorem dX9_cueAt_10 : decode (mC M_X9_cueAt) 10 = .ok (.if_icmp .ge 12, 3) := by decide +kernel
theorem dX9_cueAt_13 : decode (mC M_X9_cueAt) 13 = .ok (.aload_n 0, 1) := by decide +kernel
theorem dX9_cueAt_14 : decode (mC M_X9_cueAt) 14 = .ok (.getfield 17, 3) := by decide +kernel
theorem dX9_cueAt_17 : decode (mC M_X9_cueAt) 17 = .ok (.iload_n 1, 1) := by decide +kernel
theorem dX9_cueAt_18 : decode (mC M_X9_cueAt) 18 = .ok (.aaload, 1) := by decide +kernel
theorem dX9_cueAt_19 : decode (mC M_X9_cueAt) 19 = .ok (.goto 4, 3) := by decide +kernel
theorem dX9_cueAt_22 : decode (mC M_X9_cueAt) 22 = .ok (.aconst_null, 1) := by decide +kernel
theorem dX9_cueAt_23 : decode (mC M_X9_cueAt) 23 = .ok (.astore_n 2, 1) := by decide +kernel
theorem dX9_cueAt_24 : decode (mC M_X9_cueAt) 24 = .ok (.aload_n 2, 1) := by decide +kernel
theorem dX9_cueAt_25 : decode (mC M_X9_cueAt) 25 = .ok (.ifnonnull 14, 3) := by decide +kernel
theorem dX9_cueAt_28 : decode (mC M_X9_cueAt) 28 = .ok (.new 268, 3) := by decide +kernel
theorem dX9_cueAt_31 : decode (mC M_X9_cueAt) 31 = .ok (.dup, 1) := by decide +kernel
theorem dX9_cueAt_32 : decode (mC M_X9_cueAt) 32 = .ok (.ldc_w 301, 3) := by decide +kernel
theorem dX9_cueAt_35 : decode (mC M_X9_cueAt) 35 = .ok (.invokespecial 272, 3) := by decide +kernel
theorem dX9_cueAt_38 : decode (mC M_X9_cueAt) 38 = .ok (.athrow, 1) := by decide +kernel
theorem dX9_cueAt_39 : decode (mC M_X9_cueAt) 39 = .ok (.aload_n 2, 1) := by decide +kernel
theorem dX9_cueAt_40 : decode (mC M_X9_cueAt) 40 = .ok (.areturn, 1) := by decide +kernel
theorem dX9_frameAt_0 : decode (mC M_X9_frameAt) 0 = .ok (.iload_n 1, 1) := by decide +kernel
theorem dX9_frameAt_1 : decode (mC M_X9_frameAt) 1 = .ok (.ifCond .lt 29, 3) := by decide +kernel
theorem dX9_frameAt_4 : decode (mC M_X9_frameAt) 4 = .ok (.iload_n 1, 1) := by decide +kernel
theorem dX9_frameAt_5 : decode (mC M_X9_frameAt) 5 = .ok (.aload_n 0, 1) := by decide +kernel
theorem dX9_frameAt_6 : decode (mC M_X9_frameAt) 6 = .ok (.getfield 145, 3) := by decide +kernel
theorem dX9_frameAt_9 : decode (mC M_X9_frameAt) 9 = .ok (.if_icmp .ge 21, 3) := by decide +kernel
theorem dX9_frameAt_12 : decode (mC M_X9_frameAt) 12 = .ok (.iload_n 1, 1) := by decide +kernel
theorem dX9_frameAt_13 : decode (mC M_X9_frameAt) 13 = .ok (.aload_n 0, 1) := by decide +kernel
theorem dX9_frameAt_14 : decode (mC M_X9_frameAt) 14 = .ok (.getfield 23, 3) := by decide +kernel
theorem dX9_frameAt_17 : decode (mC M_X9_frameAt) 17 = .ok (.arraylength, 1) := by decide +kernel
theorem dX9_frameAt_18 : decode (mC M_X9_frameAt) 18 = .ok (.if_icmp .ge 12, 3) := by decide +kernel
theorem dX9_frameAt_21 : decode (mC M_X9_frameAt) 21 = .ok (.aload_n 0, 1) := by decide +kernel
theorem dX9_frameAt_22 : decode (mC M_X9_frameAt) 22 = .ok (.getfield 23, 3) := by decide +kernel
theorem dX9_frameAt_25 : decode (mC M_X9_frameAt) 25 = .ok (.iload_n 1, 1) := by decide +kernel
theorem dX9_frameAt_26 : decode (mC M_X9_frameAt) 26 = .ok (.aaload, 1) := by decide +kernel
theorem dX9_frameAt_27 : decode (mC M_X9_frameAt) 27 = .ok (.goto 4, 3) := by decide +kernel
theorem dX9_frameAt_30 : decode (mC M_X9_frameAt) 30 = .ok (.aconst_null, 1) := by decide +kernel
theorem dX9_frameAt_31 : decode (mC M_X9_frameAt) 31 = .ok (.astore_n 2, 1) := by decide +kernel
theorem dX9_frameAt_32 : decode (mC M_X9_frameAt) 32 = .ok (.aload_n 2, 1) := by decide +kernel
theorem dX9_frameAt_33 : decode (mC M_X9_frameAt) 33 = .ok (.ifnonnull 14, 3) := by decide +kernel
theorem dX9_frameAt_36 : decode (mC M_X9_frameAt) 36 = .ok (.new 268, 3) := by decide +kernel
theorem dX9_frameAt_39 : decode (mC M_X9_frameAt) 39 = .ok (.dup, 1) := by decide +kernel
theorem dX9_frameAt_40 : decode (mC M_X9_frameAt) 40 = .ok (.ldc_w 303, 3) := by decide +kernel
theorem dX9_frameAt_43 : decode (mC M_X9_frameAt) 43 = .ok (.invokespecial 272, 3) := by decide +kernel
theorem dX9_frameAt_46 : decode (mC M_X9_frameAt) 46 = .ok (.athrow, 1) := by decide +kernel
theorem dX9_frameAt_47 : decode (mC M_X9_frameAt) 47 = .ok (.aload_n 2, 1) := by decide +kernel
theorem dX9_frameAt_48 : decode (mC M_X9_frameAt) 48 = .ok (.areturn, 1) := by decide +kernel
theorem dX9_requirePlace_0 : decode (mC M_X9_requirePlace) 0 = .ok (.aload_n 0, 1) := by decide +kernel
theorem dX9_requirePlace_1 : decode (mC M_X9_requirePlace) 1 = .ok (.getfield 83, 3) := by decide +kernel
theorem dX9_requirePlace_4 : decode (mC M_X9_requirePlace) 4 = .ok (.ifCond .eq 10, 3) := by decide +kernel
theorem dX9_requirePlace_7 : decode (mC M_X9_requirePlace) 7 = .ok (.aload_n 0, 1) := by decide +kernel
theorem dX9_requirePlace_8 : decode (mC M_X9_requirePlace) 8 = .ok (.getfield 257, 3) := by decide +kernel
theorem dX9_requirePlace_11 : decode (mC M_X9_requirePlace) 11 = .ok (.ifnull 14, 3) := by decide +kernel
theorem dX9_requirePlace_14 : decode (mC M_X9_requirePlace) 14 = .ok (.new 95, 3) := by decide +kernel
theorem dX9_requirePlace_17 : decode (mC M_X9_requirePlace) 17 = .ok (.dup, 1) := by decide +kernel
theorem dX9_requirePlace_18 : decode (mC M_X9_requirePlace) 18 = .ok (.ldc_w 305, 3) := by decide +kernel
theorem dX9_requirePlace_21 : decode (mC M_X9_requirePlace) 21 = .ok (.invokespecial 99, 3) := by decide +kernel
theorem dX9_requirePlace_24 : decode (mC M_X9_requirePlace) 24 = .ok (.athrow, 1) := by decide +kernel
theorem dX9_requirePlace_25 : decode (mC M_X9_requirePlace) 25 = .ok (.iload_n 1, 1) := by decide +kernel
theorem dX9_requirePlace_26 : decode (mC M_X9_requirePlace) 26 = .ok (.ifCond .ne 30, 3) := by decide +kernel
theorem dX9_requirePlace_29 : decode (mC M_X9_requirePlace) 29 = .ok (.aload_n 0, 1) := by decide +kernel
theorem dX9_requirePlace_30 : decode (mC M_X9_requirePlace) 30 = .ok (.iload_n 2, 1) := by decide +kernel
theorem dX9_requirePlace_31 : decode (mC M_X9_requirePlace) 31 = .ok (.invokevirtual 307, 3) := by decide +kernel
theorem dX9_requirePlace_34 : decode (mC M_X9_requirePlace) 34 = .ok (.ifCond .ne 22, 3) := by decide +kernel
theorem dX9_requirePlace_37 : decode (mC M_X9_requirePlace) 37 = .ok (.aload_n 0, 1) := by decide +kernel
theorem dX9_requirePlace_38 : decode (mC M_X9_requirePlace) 38 = .ok (.iload_n 3, 1) := by decide +kernel
theorem dX9_requirePlace_39 : decode (mC M_X9_requirePlace) 39 = .ok (.invokevirtual 307, 3) := by decide +kernel
theorem dX9_requirePlace_42 : decode (mC M_X9_requirePlace) 42 = .ok (.ifCond .ne 14, 3) := by decide +kernel
theorem dX9_requirePlace_45 : decode (mC M_X9_requirePlace) 45 = .ok (.new 95, 3) := by decide +kernel
theorem dX9_requirePlace_48 : decode (mC M_X9_requirePlace) 48 = .ok (.dup, 1) := by decide +kernel
theorem dX9_requirePlace_49 : decode (mC M_X9_requirePlace) 49 = .ok (.ldc_w 310, 3) := by decide +kernel
theorem dX9_requirePlace_52 : decode (mC M_X9_requirePlace) 52 = .ok (.invokespecial 99, 3) := by decide +kernel
theorem dX9_requirePlace_55 : decode (mC M_X9_requirePlace) 55 = .ok (.athrow, 1) := by decide +kernel
theorem dX9_requirePlace_56 : decode (mC M_X9_requirePlace) 56 = .ok (.return_, 1) := by decide +kernel
theorem dX9_rentsAny_0 : decode (mC M_X9_rentsAny) 0 = .ok (.aload_n 0, 1) := by decide +kernel
theorem dX9_rentsAny_1 : decode (mC M_X9_rentsAny) 1 = .ok (.getfield 11, 3) := by decide +kernel
theorem dX9_rentsAny_4 : decode (mC M_X9_rentsAny) 4 = .ok (.astore_n 2, 1) := by decide +kernel
theorem dX9_rentsAny_5 : decode (mC M_X9_rentsAny) 5 = .ok (.aload_n 2, 1) := by decide +kernel
theorem dX9_rentsAny_6 : decode (mC M_X9_rentsAny) 6 = .ok (.arraylength, 1) := by decide +kernel
theorem dX9_rentsAny_7 : decode (mC M_X9_rentsAny) 7 = .ok (.istore_n 3, 1) := by decide +kernel
theorem dX9_rentsAny_8 : decode (mC M_X9_rentsAny) 8 = .ok (.iconst 0, 1) := by decide +kernel
theorem dX9_rentsAny_9 : decode (mC M_X9_rentsAny) 9 = .ok (.istore 4, 2) := by decide +kernel
theorem dX9_rentsAny_11 : decode (mC M_X9_rentsAny) 11 = .ok (.iload 4, 2) := by decide +kernel
theorem dX9_rentsAny_13 : decode (mC M_X9_rentsAny) 13 = .ok (.iload_n 3, 1) := by decide +kernel
theorem dX9_rentsAny_14 : decode (mC M_X9_rentsAny) 14 = .ok (.if_icmp .ge 31, 3) := by decide +kernel
theorem dX9_rentsAny_17 : decode (mC M_X9_rentsAny) 17 = .ok (.aload_n 2, 1) := by decide +kernel
theorem dX9_rentsAny_18 : decode (mC M_X9_rentsAny) 18 = .ok (.iload 4, 2) := by decide +kernel
theorem dX9_rentsAny_20 : decode (mC M_X9_rentsAny) 20 = .ok (.aaload, 1) := by decide +kernel
theorem dX9_rentsAny_21 : decode (mC M_X9_rentsAny) 21 = .ok (.astore 5, 2) := by decide +kernel
theorem dX9_rentsAny_23 : decode (mC M_X9_rentsAny) 23 = .ok (.aload 5, 2) := by decide +kernel
theorem dX9_rentsAny_25 : decode (mC M_X9_rentsAny) 25 = .ok (.ifnull 14, 3) := by decide +kernel
theorem dX9_rentsAny_28 : decode (mC M_X9_rentsAny) 28 = .ok (.aload 5, 2) := by decide +kernel
theorem dX9_rentsAny_30 : decode (mC M_X9_rentsAny) 30 = .ok (.iload_n 1, 1) := by decide +kernel
theorem dX9_rentsAny_31 : decode (mC M_X9_rentsAny) 31 = .ok (.invokevirtual 307, 3) := by decide +kernel
theorem dX9_rentsAny_34 : decode (mC M_X9_rentsAny) 34 = .ok (.ifCond .eq 5, 3) := by decide +kernel
theorem dX9_rentsAny_37 : decode (mC M_X9_rentsAny) 37 = .ok (.iconst 1, 1) := by decide +kernel
theorem dX9_rentsAny_38 : decode (mC M_X9_rentsAny) 38 = .ok (.ireturn, 1) := by decide +kernel
theorem dX9_rentsAny_39 : decode (mC M_X9_rentsAny) 39 = .ok (.iinc 4 1, 3) := by decide +kernel
theorem dX9_rentsAny_42 : decode (mC M_X9_rentsAny) 42 = .ok (.goto (-31), 3) := by decide +kernel
theorem dX9_rentsAny_45 : decode (mC M_X9_rentsAny) 45 = .ok (.iconst 0, 1) := by decide +kernel
theorem dX9_rentsAny_46 : decode (mC M_X9_rentsAny) 46 = .ok (.ireturn, 1) := by decide +kernel
theorem dX9_rentedTables_0 : decode (mC M_X9_rentedTables) 0 = .ok (.iconst 0, 1) := by decide +kernel
theorem dX9_rentedTables_1 : decode (mC M_X9_rentedTables) 1 = .ok (.istore_n 1, 1) := by decide +kernel
theorem dX9_rentedTables_2 : decode (mC M_X9_rentedTables) 2 = .ok (.aload_n 0, 1) := by decide +kernel
theorem dX9_rentedTables_3 : decode (mC M_X9_rentedTables) 3 = .ok (.getfield 11, 3) := by decide +kernel
theorem dX9_rentedTables_6 : decode (mC M_X9_rentedTables) 6 = .ok (.astore_n 2, 1) := by decide +kernel
theorem dX9_rentedTables_7 : decode (mC M_X9_rentedTables) 7 = .ok (.aload_n 2, 1) := by decide +kernel
theorem dX9_rentedTables_8 : decode (mC M_X9_rentedTables) 8 = .ok (.arraylength, 1) := by decide +kernel
theorem dX9_rentedTables_9 : decode (mC M_X9_rentedTables) 9 = .ok (.istore_n 3, 1) := by decide +kernel
theorem dX9_rentedTables_10 : decode (mC M_X9_rentedTables) 10 = .ok (.iconst 0, 1) := by decide +kernel
theorem dX9_rentedTables_11 : decode (mC M_X9_rentedTables) 11 = .ok (.istore 4, 2) := by decide +kernel
theorem dX9_rentedTables_13 : decode (mC M_X9_rentedTables) 13 = .ok (.iload 4, 2) := by decide +kernel
theorem dX9_rentedTables_15 : decode (mC M_X9_rentedTables) 15 = .ok (.iload_n 3, 1) := by decide +kernel
theorem dX9_rentedTables_16 : decode (mC M_X9_rentedTables) 16 = .ok (.if_icmp .ge 31, 3) := by decide +kernel
theorem dX9_rentedTables_19 : decode (mC M_X9_rentedTables) 19 = .ok (.aload_n 2, 1) := by decide +kernel
theorem dX9_rentedTables_20 : decode (mC M_X9_rentedTables) 20 = .ok (.iload 4, 2) := by decide +kernel
theorem dX9_rentedTables_22 : decode (mC M_X9_rentedTables) 22 = .ok (.aaload, 1) := by decide +kernel
theorem dX9_rentedTables_23 : decode (mC M_X9_rentedTables) 23 = .ok (.astore 5, 2) := by decide +kernel
theorem dX9_rentedTables_25 : decode (mC M_X9_rentedTables) 25 = .ok (.aload 5, 2) := by decide +kernel
theorem dX9_rentedTables_27 : decode (mC M_X9_rentedTables) 27 = .ok (.ifnull 14, 3) := by decide +kernel
theorem dX9_rentedTables_30 : decode (mC M_X9_rentedTables) 30 = .ok (.aload 5, 2) := by decide +kernel
theorem dX9_rentedTables_32 : decode (mC M_X9_rentedTables) 32 = .ok (.getfield 87, 3) := by decide +kernel
theorem dX9_rentedTables_35 : decode (mC M_X9_rentedTables) 35 = .ok (.ifnull 6, 3) := by decide +kernel
theorem dX9_rentedTables_38 : decode (mC M_X9_rentedTables) 38 = .ok (.iinc 1 1, 3) := by decide +kernel
theorem dX9_rentedTables_41 : decode (mC M_X9_rentedTables) 41 = .ok (.iinc 4 1, 3) := by decide +kernel
theorem dX9_rentedTables_44 : decode (mC M_X9_rentedTables) 44 = .ok (.goto (-31), 3) := by decide +kernel
theorem dX9_rentedTables_47 : decode (mC M_X9_rentedTables) 47 = .ok (.iload_n 1, 1) := by decide +kernel
theorem dX9_rentedTables_48 : decode (mC M_X9_rentedTables) 48 = .ok (.ireturn, 1) := by decide +kernel
theorem dX9_openTables_0 : decode (mC M_X9_openTables) 0 = .ok (.iconst 0, 1) := by decide +kernel
theorem dX9_openTables_1 : decode (mC M_X9_openTables) 1 = .ok (.istore_n 1, 1) := by decide +kernel
theorem dX9_openTables_2 : decode (mC M_X9_openTables) 2 = .ok (.aload_n 0, 1) := by decide +kernel
theorem dX9_openTables_3 : decode (mC M_X9_openTables) 3 = .ok (.getfield 11, 3) := by decide +kernel
theorem dX9_openTables_6 : decode (mC M_X9_openTables) 6 = .ok (.astore_n 2, 1) := by decide +kernel
theorem dX9_openTables_7 : decode (mC M_X9_openTables) 7 = .ok (.aload_n 2, 1) := by decide +kernel
theorem dX9_openTables_8 : decode (mC M_X9_openTables) 8 = .ok (.arraylength, 1) := by decide +kernel
theorem dX9_openTables_9 : decode (mC M_X9_openTables) 9 = .ok (.istore_n 3, 1) := by decide +kernel
theorem dX9_openTables_10 : decode (mC M_X9_openTables) 10 = .ok (.iconst 0, 1) := by decide +kernel
theorem dX9_openTables_11 : decode (mC M_X9_openTables) 11 = .ok (.istore 4, 2) := by decide +kernel
theorem dX9_openTables_13 : decode (mC M_X9_openTables) 13 = .ok (.iload 4, 2) := by decide +kernel
theorem dX9_openTables_15 : decode (mC M_X9_openTables) 15 = .ok (.iload_n 3, 1) := by decide +kernel
theorem dX9_openTables_16 : decode (mC M_X9_openTables) 16 = .ok (.if_icmp .ge 31, 3) := by decide +kernel
theorem dX9_openTables_19 : decode (mC M_X9_openTables) 19 = .ok (.aload_n 2, 1) := by decide +kernel
theorem dX9_openTables_20 : decode (mC M_X9_openTables) 20 = .ok (.iload 4, 2) := by decide +kernel
theorem dX9_openTables_22 : decode (mC M_X9_openTables) 22 = .ok (.aaload, 1) := by decide +kernel
theorem dX9_openTables_23 : decode (mC M_X9_openTables) 23 = .ok (.astore 5, 2) := by decide +kernel
theorem dX9_openTables_25 : decode (mC M_X9_openTables) 25 = .ok (.aload 5, 2) := by decide +kernel
theorem dX9_openTables_27 : decode (mC M_X9_openTables) 27 = .ok (.ifnull 14, 3) := by decide +kernel
theorem dX9_openTables_30 : decode (mC M_X9_openTables) 30 = .ok (.aload 5, 2) := by decide +kernel
theorem dX9_openTables_32 : decode (mC M_X9_openTables) 32 = .ok (.getfield 83, 3) := by decide +kernel
theorem dX9_openTables_35 : decode (mC M_X9_openTables) 35 = .ok (.ifCond .eq 6, 3) := by decide +kernel
theorem dX9_openTables_38 : decode (mC M_X9_openTables) 38 = .ok (.iinc 1 1, 3) := by decide +kernel
theorem dX9_openTables_41 : decode (mC M_X9_openTables) 41 = .ok (.iinc 4 1, 3) := by decide +kernel
theorem dX9_openTables_44 : decode (mC M_X9_openTables) 44 = .ok (.goto (-31), 3) := by decide +kernel
theorem dX9_openTables_47 : decode (mC M_X9_openTables) 47 = .ok (.iload_n 1, 1) := by decide +kernel
theorem dX9_openTables_48 : decode (mC M_X9_openTables) 48 = .ok (.ireturn, 1) := by decide +kernel
theorem dX9_endRental_0 : decode (mC M_X9_endRental) 0 = .ok (.aload_n 1, 1) := by decide +kernel
theorem dX9_endRental_1 : decode (mC M_X9_endRental) 1 = .ok (.getfield 87, 3) := by decide +kernel
theorem dX9_endRental_4 : decode (mC M_X9_endRental) 4 = .ok (.astore_n 2, 1) := by decide +kernel
theorem dX9_endRental_5 : decode (mC M_X9_endRental) 5 = .ok (.aload_n 2, 1) := by decide +kernel
theorem dX9_endRental_6 : decode (mC M_X9_endRental) 6 = .ok (.ifnonnull 5, 3) := by decide +kernel
theorem dX9_endRental_9 : decode (mC M_X9_endRental) 9 = .ok (.iconst 0, 1) := by decide +kernel
theorem dX9_endRental_10 : decode (mC M_X9_endRental) 10 = .ok (.ireturn, 1) := by decide +kernel
theorem dX9_endRental_11 : decode (mC M_X9_endRental) 11 = .ok (.aload_n 2, 1) := by decide +kernel
theorem dX9_endRental_12 : decode (mC M_X9_endRental) 12 = .ok (.aload_n 0, 1) := by decide +kernel
theorem dX9_endRental_13 : decode (mC M_X9_endRental) 13 = .ok (.getfield 102, 3) := by decide +kernel
theorem dX9_endRental_16 : decode (mC M_X9_endRental) 16 = .ok (.aload_n 0, 1) := by decide +kernel
theorem dX9_endRental_17 : decode (mC M_X9_endRental) 17 = .ok (.getfield 65, 3) := by decide +kernel
theorem dX9_endRental_20 : decode (mC M_X9_endRental) 20 = .ok (.invokevirtual 312, 3) := by decide +kernel
theorem dX9_endRental_23 : decode (mC M_X9_endRental) 23 = .ok (.aload_n 1, 1) := by decide +kernel
theorem dX9_endRental_24 : decode (mC M_X9_endRental) 24 = .ok (.aconst_null, 1) := by decide +kernel
theorem dX9_endRental_25 : decode (mC M_X9_endRental) 25 = .ok (.putfield 87, 3) := by decide +kernel
theorem dX9_endRental_28 : decode (mC M_X9_endRental) 28 = .ok (.aload_n 1, 1) := by decide +kernel
theorem dX9_endRental_29 : decode (mC M_X9_endRental) 29 = .ok (.getfield 107, 3) := by decide +kernel
theorem dX9_endRental_32 : decode (mC M_X9_endRental) 32 = .ok (.aload_n 0, 1) := by decide +kernel
theorem dX9_endRental_33 : decode (mC M_X9_endRental) 33 = .ok (.getfield 65, 3) := by decide +kernel
theorem dX9_endRental_36 : decode (mC M_X9_endRental) 36 = .ok (.invokestatic 314, 3) := by decide +kernel
theorem dX9_endRental_39 : decode (mC M_X9_endRental) 39 = .ok (.istore_n 3, 1) := by decide +kernel
theorem dX9_endRental_40 : decode (mC M_X9_endRental) 40 = .ok (.aload_n 0, 1) := by decide +kernel
theorem dX9_endRental_41 : decode (mC M_X9_endRental) 41 = .ok (.aload_n 2, 1) := by decide +kernel
theorem dX9_endRental_42 : decode (mC M_X9_endRental) 42 = .ok (.getfield 256, 3) := by decide +kernel
theorem dX9_endRental_45 : decode (mC M_X9_endRental) 45 = .ok (.iload_n 3, 1) := by decide +kernel
theorem dX9_endRental_46 : decode (mC M_X9_endRental) 46 = .ok (.invokevirtual 240, 3) := by decide +kernel
theorem dX9_endRental_49 : decode (mC M_X9_endRental) 49 = .ok (.aload_n 1, 1) := by decide +kernel
theorem dX9_endRental_50 : decode (mC M_X9_endRental) 50 = .ok (.getfield 257, 3) := by decide +kernel
theorem dX9_endRental_53 : decode (mC M_X9_endRental) 53 = .ok (.ifnull 18, 3) := by decide +kernel
theorem dX9_endRental_56 : decode (mC M_X9_endRental) 56 = .ok (.aload_n 1, 1) := by decide +kernel
theorem dX9_endRental_57 : decode (mC M_X9_endRental) 57 = .ok (.getfield 257, 3) := by decide +kernel
theorem dX9_endRental_60 : decode (mC M_X9_endRental) 60 = .ok (.getfield 173, 3) := by decide +kernel
theorem dX9_endRental_63 : decode (mC M_X9_endRental) 63 = .ok (.ifCond .ne 8, 3) := by decide +kernel
theorem dX9_endRental_66 : decode (mC M_X9_endRental) 66 = .ok (.aload_n 0, 1) := by decide +kernel
theorem dX9_endRental_67 : decode (mC M_X9_endRental) 67 = .ok (.aload_n 1, 1) := by decide +kernel
theorem dX9_endRental_68 : decode (mC M_X9_endRental) 68 = .ok (.invokevirtual 125, 3) := by decide +kernel
theorem dX9_endRental_71 : decode (mC M_X9_endRental) 71 = .ok (.iload_n 3, 1) := by decide +kernel
theorem dX9_endRental_72 : decode (mC M_X9_endRental) 72 = .ok (.ireturn, 1) := by decide +kernel
theorem dX9_billFor_0 : decode (mC M_X9_billFor) 0 = .ok (.iload_n 0, 1) := by decide +kernel
theorem dX9_billFor_1 : decode (mC M_X9_billFor) 1 = .ok (.bipush 9, 2) := by decide +kernel
theorem dX9_billFor_3 : decode (mC M_X9_billFor) 3 = .ok (.iadd, 1) := by decide +kernel
theorem dX9_billFor_4 : decode (mC M_X9_billFor) 4 = .ok (.bipush 10, 2) := by decide +kernel
theorem dX9_billFor_6 : decode (mC M_X9_billFor) 6 = .ok (.idiv, 1) := by decide +kernel
theorem dX9_billFor_7 : decode (mC M_X9_billFor) 7 = .ok (.iload_n 1, 1) := by decide +kernel
theorem dX9_billFor_8 : decode (mC M_X9_billFor) 8 = .ok (.imul, 1) := by decide +kernel
theorem dX9_billFor_9 : decode (mC M_X9_billFor) 9 = .ok (.ireturn, 1) := by decide +kernel
theorem dX9_addDebt_0 : decode (mC M_X9_addDebt) 0 = .ok (.iload_n 1, 1) := by decide +kernel
theorem dX9_addDebt_1 : decode (mC M_X9_addDebt) 1 = .ok (.ifCond .lt 22, 3) := by decide +kernel
theorem dX9_addDebt_4 : decode (mC M_X9_addDebt) 4 = .ok (.iload_n 1, 1) := by decide +kernel
theorem dX9_addDebt_5 : decode (mC M_X9_addDebt) 5 = .ok (.aload_n 0, 1) := by decide +kernel
theorem dX9_addDebt_6 : decode (mC M_X9_addDebt) 6 = .ok (.getfield 45, 3) := by decide +kernel
theorem dX9_addDebt_9 : decode (mC M_X9_addDebt) 9 = .ok (.arraylength, 1) := by decide +kernel
theorem dX9_addDebt_10 : decode (mC M_X9_addDebt) 10 = .ok (.if_icmp .ge 13, 3) := by decide +kernel
theorem dX9_addDebt_13 : decode (mC M_X9_addDebt) 13 = .ok (.aload_n 0, 1) := by decide +kernel
theorem dX9_addDebt_14 : decode (mC M_X9_addDebt) 14 = .ok (.getfield 45, 3) := by decide +kernel
theorem dX9_addDebt_17 : decode (mC M_X9_addDebt) 17 = .ok (.iload_n 1, 1) := by decide +kernel
theorem dX9_addDebt_18 : decode (mC M_X9_addDebt) 18 = .ok (.dup2, 1) := by decide +kernel
theorem dX9_addDebt_19 : decode (mC M_X9_addDebt) 19 = .ok (.iaload, 1) := by decide +kernel
theorem dX9_addDebt_20 : decode (mC M_X9_addDebt) 20 = .ok (.iload_n 2, 1) := by decide +kernel
theorem dX9_addDebt_21 : decode (mC M_X9_addDebt) 21 = .ok (.iadd, 1) := by decide +kernel
theorem dX9_addDebt_22 : decode (mC M_X9_addDebt) 22 = .ok (.iastore, 1) := by decide +kernel
theorem dX9_addDebt_23 : decode (mC M_X9_addDebt) 23 = .ok (.return_, 1) := by decide +kernel
theorem dX9_billsAnew_0 : decode (mC M_X9_billsAnew) 0 = .ok (.iconst 0, 1) := by decide +kernel
theorem dX9_billsAnew_1 : decode (mC M_X9_billsAnew) 1 = .ok (.istore_n 2, 1) := by decide +kernel
theorem dX9_billsAnew_2 : decode (mC M_X9_billsAnew) 2 = .ok (.iconst 0, 1) := by decide +kernel
theorem dX9_billsAnew_3 : decode (mC M_X9_billsAnew) 3 = .ok (.istore_n 3, 1) := by decide +kernel
theorem dX9_billsAnew_4 : decode (mC M_X9_billsAnew) 4 = .ok (.iload_n 3, 1) := by decide +kernel
theorem dX9_billsAnew_5 : decode (mC M_X9_billsAnew) 5 = .ok (.aload_n 0, 1) := by decide +kernel
theorem dX9_billsAnew_6 : decode (mC M_X9_billsAnew) 6 = .ok (.getfield 110, 3) := by decide +kernel
theorem dX9_billsAnew_9 : decode (mC M_X9_billsAnew) 9 = .ok (.if_icmp .ge 81, 3) := by decide +kernel
theorem dX9_billsAnew_12 : decode (mC M_X9_billsAnew) 12 = .ok (.iload_n 3, 1) := by decide +kernel
theorem dX9_billsAnew_13 : decode (mC M_X9_billsAnew) 13 = .ok (.aload_n 0, 1) := by decide +kernel
theorem dX9_billsAnew_14 : decode (mC M_X9_billsAnew) 14 = .ok (.getfield 29, 3) := by decide +kernel
theorem dX9_billsAnew_17 : decode (mC M_X9_billsAnew) 17 = .ok (.arraylength, 1) := by decide +kernel
theorem dX9_billsAnew_18 : decode (mC M_X9_billsAnew) 18 = .ok (.if_icmp .ge 72, 3) := by decide +kernel
theorem dX9_billsAnew_21 : decode (mC M_X9_billsAnew) 21 = .ok (.aload_n 0, 1) := by decide +kernel
theorem dX9_billsAnew_22 : decode (mC M_X9_billsAnew) 22 = .ok (.getfield 29, 3) := by decide +kernel
theorem dX9_billsAnew_25 : decode (mC M_X9_billsAnew) 25 = .ok (.iload_n 3, 1) := by decide +kernel
theorem dX9_billsAnew_26 : decode (mC M_X9_billsAnew) 26 = .ok (.aaload, 1) := by decide +kernel
theorem dX9_billsAnew_27 : decode (mC M_X9_billsAnew) 27 = .ok (.astore 4, 2) := by decide +kernel
theorem dX9_billsAnew_29 : decode (mC M_X9_billsAnew) 29 = .ok (.aload 4, 2) := by decide +kernel
theorem dX9_billsAnew_31 : decode (mC M_X9_billsAnew) 31 = .ok (.ifnull 53, 3) := by decide +kernel
theorem dX9_billsAnew_34 : decode (mC M_X9_billsAnew) 34 = .ok (.aload 4, 2) := by decide +kernel
theorem dX9_billsAnew_36 : decode (mC M_X9_billsAnew) 36 = .ok (.getfield 256, 3) := by decide +kernel
theorem dX9_billsAnew_39 : decode (mC M_X9_billsAnew) 39 = .ok (.iload_n 1, 1) := by decide +kernel
theorem dX9_billsAnew_40 : decode (mC M_X9_billsAnew) 40 = .ok (.if_icmp .ne 44, 3) := by decide +kernel
theorem dX9_billsAnew_43 : decode (mC M_X9_billsAnew) 43 = .ok (.aload 4, 2) := by decide +kernel
theorem dX9_billsAnew_45 : decode (mC M_X9_billsAnew) 45 = .ok (.invokevirtual 318, 3) := by decide +kernel
theorem dX9_billsAnew_48 : decode (mC M_X9_billsAnew) 48 = .ok (.ifCond .eq 36, 3) := by decide +kernel
theorem dX9_billsAnew_51 : decode (mC M_X9_billsAnew) 51 = .ok (.aload 4, 2) := by decide +kernel
theorem dX9_billsAnew_53 : decode (mC M_X9_billsAnew) 53 = .ok (.getfield 321, 3) := by decide +kernel
theorem dX9_billsAnew_56 : decode (mC M_X9_billsAnew) 56 = .ok (.aload 4, 2) := by decide +kernel
theorem dX9_billsAnew_58 : decode (mC M_X9_billsAnew) 58 = .ok (.getfield 324, 3) := by decide +kernel
theorem dX9_billsAnew_61 : decode (mC M_X9_billsAnew) 61 = .ok (.isub, 1) := by decide +kernel
theorem dX9_billsAnew_62 : decode (mC M_X9_billsAnew) 62 = .ok (.aload_n 0, 1) := by decide +kernel
theorem dX9_billsAnew_63 : decode (mC M_X9_billsAnew) 63 = .ok (.aload 4, 2) := by decide +kernel
theorem dX9_billsAnew_65 : decode (mC M_X9_billsAnew) 65 = .ok (.invokevirtual 327, 3) := by decide +kernel
theorem dX9_billsAnew_68 : decode (mC M_X9_billsAnew) 68 = .ok (.isub, 1) := by decide +kernel
theorem dX9_billsAnew_69 : decode (mC M_X9_billsAnew) 69 = .ok (.istore 5, 2) := by decide +kernel
theorem dX9_billsAnew_71 : decode (mC M_X9_billsAnew) 71 = .ok (.iload_n 2, 1) := by decide +kernel
theorem dX9_billsAnew_72 : decode (mC M_X9_billsAnew) 72 = .ok (.iload 5, 2) := by decide +kernel
theorem dX9_billsAnew_74 : decode (mC M_X9_billsAnew) 74 = .ok (.aload 4, 2) := by decide +kernel
theorem dX9_billsAnew_76 : decode (mC M_X9_billsAnew) 76 = .ok (.getfield 331, 3) := by decide +kernel
theorem dX9_billsAnew_79 : decode (mC M_X9_billsAnew) 79 = .ok (.invokestatic 314, 3) := by decide +kernel
theorem dX9_billsAnew_82 : decode (mC M_X9_billsAnew) 82 = .ok (.iadd, 1) := by decide +kernel
theorem dX9_billsAnew_83 : decode (mC M_X9_billsAnew) 83 = .ok (.istore_n 2, 1) := by decide +kernel
theorem dX9_billsAnew_84 : decode (mC M_X9_billsAnew) 84 = .ok (.iinc 3 1, 3) := by decide +kernel
theorem dX9_billsAnew_87 : decode (mC M_X9_billsAnew) 87 = .ok (.goto (-83), 3) := by decide +kernel
theorem dX9_billsAnew_90 : decode (mC M_X9_billsAnew) 90 = .ok (.iload_n 2, 1) := by decide +kernel
theorem dX9_billsAnew_91 : decode (mC M_X9_billsAnew) 91 = .ok (.ireturn, 1) := by decide +kernel
theorem dX9_leagueMinutes_0 : decode (mC M_X9_leagueMinutes) 0 = .ok (.iconst 0, 1) := by decide +kernel
theorem dX9_leagueMinutes_1 : decode (mC M_X9_leagueMinutes) 1 = .ok (.istore_n 2, 1) := by decide +kernel
theorem dX9_leagueMinutes_2 : decode (mC M_X9_leagueMinutes) 2 = .ok (.iconst 0, 1) := by decide +kernel
theorem dX9_leagueMinutes_3 : decode (mC M_X9_leagueMinutes) 3 = .ok (.istore_n 3, 1) := by decide +kernel
theorem dX9_leagueMinutes_4 : decode (mC M_X9_leagueMinutes) 4 = .ok (.iload_n 3, 1) := by decide +kernel
theorem dX9_leagueMinutes_5 : decode (mC M_X9_leagueMinutes) 5 = .ok (.aload_n 0, 1) := by decide +kernel
theorem dX9_leagueMinutes_6 : decode (mC M_X9_leagueMinutes) 6 = .ok (.getfield 332, 3) := by decide +kernel
theorem dX9_leagueMinutes_9 : decode (mC M_X9_leagueMinutes) 9 = .ok (.if_icmp .ge 59, 3) := by decide +kernel
theorem dX9_leagueMinutes_12 : decode (mC M_X9_leagueMinutes) 12 = .ok (.iload_n 3, 1) := by decide +kernel
theorem dX9_leagueMinutes_13 : decode (mC M_X9_leagueMinutes) 13 = .ok (.aload_n 0, 1) := by decide +kernel
theorem dX9_leagueMinutes_14 : decode (mC M_X9_leagueMinutes) 14 = .ok (.getfield 35, 3) := by decide +kernel
theorem dX9_leagueMinutes_17 : decode (mC M_X9_leagueMinutes) 17 = .ok (.arraylength, 1) := by decide +kernel
theorem dX9_leagueMinutes_18 : decode (mC M_X9_leagueMinutes) 18 = .ok (.if_icmp .ge 50, 3) := by decide +kernel
theorem dX9_leagueMinutes_21 : decode (mC M_X9_leagueMinutes) 21 = .ok (.aload_n 0, 1) := by decide +kernel
theorem dX9_leagueMinutes_22 : decode (mC M_X9_leagueMinutes) 22 = .ok (.getfield 35, 3) := by decide +kernel
theorem dX9_leagueMinutes_25 : decode (mC M_X9_leagueMinutes) 25 = .ok (.iload_n 3, 1) := by decide +kernel
theorem dX9_leagueMinutes_26 : decode (mC M_X9_leagueMinutes) 26 = .ok (.aaload, 1) := by decide +kernel
theorem dX9_leagueMinutes_27 : decode (mC M_X9_leagueMinutes) 27 = .ok (.astore 4, 2) := by decide +kernel
theorem dX9_leagueMinutes_29 : decode (mC M_X9_leagueMinutes) 29 = .ok (.aload 4, 2) := by decide +kernel
theorem dX9_leagueMinutes_31 : decode (mC M_X9_leagueMinutes) 31 = .ok (.ifnull 31, 3) := by decide +kernel
theorem dX9_leagueMinutes_34 : decode (mC M_X9_leagueMinutes) 34 = .ok (.aload 4, 2) := by decide +kernel
theorem dX9_leagueMinutes_36 : decode (mC M_X9_leagueMinutes) 36 = .ok (.getfield 335, 3) := by decide +kernel
theorem dX9_leagueMinutes_39 : decode (mC M_X9_leagueMinutes) 39 = .ok (.aload_n 1, 1) := by decide +kernel
theorem dX9_leagueMinutes_40 : decode (mC M_X9_leagueMinutes) 40 = .ok (.getfield 337, 3) := by decide +kernel
theorem dX9_leagueMinutes_43 : decode (mC M_X9_leagueMinutes) 43 = .ok (.if_icmp .ne 19, 3) := by decide +kernel
theorem dX9_leagueMinutes_46 : decode (mC M_X9_leagueMinutes) 46 = .ok (.iload_n 2, 1) := by decide +kernel
theorem dX9_leagueMinutes_47 : decode (mC M_X9_leagueMinutes) 47 = .ok (.aload 4, 2) := by decide +kernel
theorem dX9_leagueMinutes_49 : decode (mC M_X9_leagueMinutes) 49 = .ok (.aload_n 1, 1) := by decide +kernel
theorem dX9_leagueMinutes_50 : decode (mC M_X9_leagueMinutes) 50 = .ok (.getfield 324, 3) := by decide +kernel
theorem dX9_leagueMinutes_53 : decode (mC M_X9_leagueMinutes) 53 = .ok (.aload_n 1, 1) := by decide +kernel
theorem dX9_leagueMinutes_54 : decode (mC M_X9_leagueMinutes) 54 = .ok (.getfield 321, 3) := by decide +kernel
theorem dX9_leagueMinutes_57 : decode (mC M_X9_leagueMinutes) 57 = .ok (.invokevirtual 338, 3) := by decide +kernel
theorem dX9_leagueMinutes_60 : decode (mC M_X9_leagueMinutes) 60 = .ok (.iadd, 1) := by decide +kernel
theorem dX9_leagueMinutes_61 : decode (mC M_X9_leagueMinutes) 61 = .ok (.istore_n 2, 1) := by decide +kernel
theorem dX9_leagueMinutes_62 : decode (mC M_X9_leagueMinutes) 62 = .ok (.iinc 3 1, 3) := by decide +kernel
theorem dX9_leagueMinutes_65 : decode (mC M_X9_leagueMinutes) 65 = .ok (.goto (-61), 3) := by decide +kernel
theorem dX9_leagueMinutes_68 : decode (mC M_X9_leagueMinutes) 68 = .ok (.iload_n 2, 1) := by decide +kernel
theorem dX9_leagueMinutes_69 : decode (mC M_X9_leagueMinutes) 69 = .ok (.ireturn, 1) := by decide +kernel
theorem dX9_depositsAnew_0 : decode (mC M_X9_depositsAnew) 0 = .ok (.iconst 0, 1) := by decide +kernel
theorem dX9_depositsAnew_1 : decode (mC M_X9_depositsAnew) 1 = .ok (.istore_n 2, 1) := by decide +kernel
theorem dX9_depositsAnew_2 : decode (mC M_X9_depositsAnew) 2 = .ok (.iconst 0, 1) := by decide +kernel
theorem dX9_depositsAnew_3 : decode (mC M_X9_depositsAnew) 3 = .ok (.istore_n 3, 1) := by decide +kernel
theorem dX9_depositsAnew_4 : decode (mC M_X9_depositsAnew) 4 = .ok (.iload_n 3, 1) := by decide +kernel
theorem dX9_depositsAnew_5 : decode (mC M_X9_depositsAnew) 5 = .ok (.aload_n 0, 1) := by decide +kernel
theorem dX9_depositsAnew_6 : decode (mC M_X9_depositsAnew) 6 = .ok (.getfield 237, 3) := by decide +kernel
theorem dX9_depositsAnew_9 : decode (mC M_X9_depositsAnew) 9 = .ok (.if_icmp .ge 61, 3) := by decide +kernel
theorem dX9_depositsAnew_12 : decode (mC M_X9_depositsAnew) 12 = .ok (.iload_n 3, 1) := by decide +kernel
theorem dX9_depositsAnew_13 : decode (mC M_X9_depositsAnew) 13 = .ok (.aload_n 0, 1) := by decide +kernel
theorem dX9_depositsAnew_14 : decode (mC M_X9_depositsAnew) 14 = .ok (.getfield 41, 3) := by decide +kernel
theorem dX9_depositsAnew_17 : decode (mC M_X9_depositsAnew) 17 = .ok (.arraylength, 1) := by decide +kernel
theorem dX9_depositsAnew_18 : decode (mC M_X9_depositsAnew) 18 = .ok (.if_icmp .ge 52, 3) := by decide +kernel
theorem dX9_depositsAnew_21 : decode (mC M_X9_depositsAnew) 21 = .ok (.aload_n 0, 1) := by decide +kernel
theorem dX9_depositsAnew_22 : decode (mC M_X9_depositsAnew) 22 = .ok (.getfield 41, 3) := by decide +kernel
theorem dX9_depositsAnew_25 : decode (mC M_X9_depositsAnew) 25 = .ok (.iload_n 3, 1) := by decide +kernel
theorem dX9_depositsAnew_26 : decode (mC M_X9_depositsAnew) 26 = .ok (.aaload, 1) := by decide +kernel
theorem dX9_depositsAnew_27 : decode (mC M_X9_depositsAnew) 27 = .ok (.astore 4, 2) := by decide +kernel
theorem dX9_depositsAnew_29 : decode (mC M_X9_depositsAnew) 29 = .ok (.aload 4, 2) := by decide +kernel
theorem dX9_depositsAnew_31 : decode (mC M_X9_depositsAnew) 31 = .ok (.ifnull 33, 3) := by decide +kernel
theorem dX9_depositsAnew_34 : decode (mC M_X9_depositsAnew) 34 = .ok (.aload 4, 2) := by decide +kernel
theorem dX9_depositsAnew_36 : decode (mC M_X9_depositsAnew) 36 = .ok (.getfield 251, 3) := by decide +kernel
theorem dX9_depositsAnew_39 : decode (mC M_X9_depositsAnew) 39 = .ok (.iload_n 1, 1) := by decide +kernel
theorem dX9_depositsAnew_40 : decode (mC M_X9_depositsAnew) 40 = .ok (.if_icmp .ne 24, 3) := by decide +kernel
theorem dX9_depositsAnew_43 : decode (mC M_X9_depositsAnew) 43 = .ok (.iload_n 2, 1) := by decide +kernel
theorem dX9_depositsAnew_44 : decode (mC M_X9_depositsAnew) 44 = .ok (.aload 4, 2) := by decide +kernel
theorem dX9_depositsAnew_46 : decode (mC M_X9_depositsAnew) 46 = .ok (.invokevirtual 341, 3) := by decide +kernel
theorem dX9_depositsAnew_49 : decode (mC M_X9_depositsAnew) 49 = .ok (.ifCond .eq 11, 3) := by decide +kernel
theorem dX9_depositsAnew_52 : decode (mC M_X9_depositsAnew) 52 = .ok (.aload 4, 2) := by decide +kernel
theorem dX9_depositsAnew_54 : decode (mC M_X9_depositsAnew) 54 = .ok (.invokevirtual 248, 3) := by decide +kernel
theorem dX9_depositsAnew_57 : decode (mC M_X9_depositsAnew) 57 = .ok (.goto 5, 3) := by decide +kernel
theorem dX9_depositsAnew_60 : decode (mC M_X9_depositsAnew) 60 = .ok (.bipush 20, 2) := by decide +kernel
theorem dX9_depositsAnew_62 : decode (mC M_X9_depositsAnew) 62 = .ok (.iadd, 1) := by decide +kernel
theorem dX9_depositsAnew_63 : decode (mC M_X9_depositsAnew) 63 = .ok (.istore_n 2, 1) := by decide +kernel
theorem dX9_depositsAnew_64 : decode (mC M_X9_depositsAnew) 64 = .ok (.iinc 3 1, 3) := by decide +kernel
theorem dX9_depositsAnew_67 : decode (mC M_X9_depositsAnew) 67 = .ok (.goto (-63), 3) := by decide +kernel
theorem dX9_depositsAnew_70 : decode (mC M_X9_depositsAnew) 70 = .ok (.iload_n 2, 1) := by decide +kernel
theorem dX9_depositsAnew_71 : decode (mC M_X9_depositsAnew) 71 = .ok (.ireturn, 1) := by decide +kernel
theorem dX9_putFrameOn_0 : decode (mC M_X9_putFrameOn) 0 = .ok (.aload_n 1, 1) := by decide +kernel
theorem dX9_putFrameOn_1 : decode (mC M_X9_putFrameOn) 1 = .ok (.aload_n 2, 1) := by decide +kernel
theorem dX9_putFrameOn_2 : decode (mC M_X9_putFrameOn) 2 = .ok (.putfield 185, 3) := by decide +kernel
theorem dX9_putFrameOn_5 : decode (mC M_X9_putFrameOn) 5 = .ok (.aload_n 2, 1) := by decide +kernel
theorem dX9_putFrameOn_6 : decode (mC M_X9_putFrameOn) 6 = .ok (.aload_n 1, 1) := by decide +kernel
theorem dX9_putFrameOn_7 : decode (mC M_X9_putFrameOn) 7 = .ok (.putfield 257, 3) := by decide +kernel
theorem dX9_putFrameOn_10 : decode (mC M_X9_putFrameOn) 10 = .ok (.aload_n 1, 1) := by decide +kernel
theorem dX9_putFrameOn_11 : decode (mC M_X9_putFrameOn) 11 = .ok (.getfield 173, 3) := by decide +kernel
theorem dX9_putFrameOn_14 : decode (mC M_X9_putFrameOn) 14 = .ok (.ifCond .ne 4, 3) := by decide +kernel
theorem dX9_putFrameOn_17 : decode (mC M_X9_putFrameOn) 17 = .ok (.return_, 1) := by decide +kernel
theorem dX9_putFrameOn_18 : decode (mC M_X9_putFrameOn) 18 = .ok (.new 33, 3) := by decide +kernel
theorem dX9_putFrameOn_21 : decode (mC M_X9_putFrameOn) 21 = .ok (.dup, 1) := by decide +kernel
theorem dX9_putFrameOn_22 : decode (mC M_X9_putFrameOn) 22 = .ok (.iload_n 3, 1) := by decide +kernel
theorem dX9_putFrameOn_23 : decode (mC M_X9_putFrameOn) 23 = .ok (.aload_n 0, 1) := by decide +kernel
theorem dX9_putFrameOn_24 : decode (mC M_X9_putFrameOn) 24 = .ok (.getfield 102, 3) := by decide +kernel
theorem dX9_putFrameOn_27 : decode (mC M_X9_putFrameOn) 27 = .ok (.invokespecial 342, 3) := by decide +kernel
theorem dX9_putFrameOn_30 : decode (mC M_X9_putFrameOn) 30 = .ok (.astore 4, 2) := by decide +kernel
theorem dX9_putFrameOn_32 : decode (mC M_X9_putFrameOn) 32 = .ok (.aload_n 2, 1) := by decide +kernel
theorem dX9_putFrameOn_33 : decode (mC M_X9_putFrameOn) 33 = .ok (.aload 4, 2) := by decide +kernel
theorem dX9_putFrameOn_35 : decode (mC M_X9_putFrameOn) 35 = .ok (.putfield 343, 3) := by decide +kernel
theorem dX9_putFrameOn_38 : decode (mC M_X9_putFrameOn) 38 = .ok (.aload_n 0, 1) := by decide +kernel
theorem dX9_putFrameOn_39 : decode (mC M_X9_putFrameOn) 39 = .ok (.getfield 332, 3) := by decide +kernel
theorem dX9_putFrameOn_42 : decode (mC M_X9_putFrameOn) 42 = .ok (.aload_n 0, 1) := by decide +kernel
theorem dX9_putFrameOn_43 : decode (mC M_X9_putFrameOn) 43 = .ok (.getfield 35, 3) := by decide +kernel
theorem dX9_putFrameOn_46 : decode (mC M_X9_putFrameOn) 46 = .ok (.arraylength, 1) := by decide +kernel
theorem dX9_putFrameOn_47 : decode (mC M_X9_putFrameOn) 47 = .ok (.if_icmp .ge 24, 3) := by decide +kernel
theorem dX9_putFrameOn_50 : decode (mC M_X9_putFrameOn) 50 = .ok (.aload_n 0, 1) := by decide +kernel
theorem dX9_putFrameOn_51 : decode (mC M_X9_putFrameOn) 51 = .ok (.getfield 35, 3) := by decide +kernel
theorem dX9_putFrameOn_54 : decode (mC M_X9_putFrameOn) 54 = .ok (.aload_n 0, 1) := by decide +kernel
theorem dX9_putFrameOn_55 : decode (mC M_X9_putFrameOn) 55 = .ok (.getfield 332, 3) := by decide +kernel
theorem dX9_putFrameOn_58 : decode (mC M_X9_putFrameOn) 58 = .ok (.aload 4, 2) := by decide +kernel
theorem dX9_putFrameOn_60 : decode (mC M_X9_putFrameOn) 60 = .ok (.aastore, 1) := by decide +kernel
theorem dX9_putFrameOn_61 : decode (mC M_X9_putFrameOn) 61 = .ok (.aload_n 0, 1) := by decide +kernel
theorem dX9_putFrameOn_62 : decode (mC M_X9_putFrameOn) 62 = .ok (.dup, 1) := by decide +kernel
theorem dX9_putFrameOn_63 : decode (mC M_X9_putFrameOn) 63 = .ok (.getfield 332, 3) := by decide +kernel
theorem dX9_putFrameOn_66 : decode (mC M_X9_putFrameOn) 66 = .ok (.iconst 1, 1) := by decide +kernel
theorem dX9_putFrameOn_67 : decode (mC M_X9_putFrameOn) 67 = .ok (.iadd, 1) := by decide +kernel
theorem dX9_putFrameOn_68 : decode (mC M_X9_putFrameOn) 68 = .ok (.putfield 332, 3) := by decide +kernel
theorem dX9_putFrameOn_71 : decode (mC M_X9_putFrameOn) 71 = .ok (.return_, 1) := by decide +kernel
theorem dX9_takeFrameOff_0 : decode (mC M_X9_takeFrameOff) 0 = .ok (.aload_n 1, 1) := by decide +kernel
theorem dX9_takeFrameOff_1 : decode (mC M_X9_takeFrameOff) 1 = .ok (.ifnull 10, 3) := by decide +kernel
theorem dX9_takeFrameOff_4 : decode (mC M_X9_takeFrameOff) 4 = .ok (.aload_n 1, 1) := by decide +kernel
theorem dX9_takeFrameOff_5 : decode (mC M_X9_takeFrameOff) 5 = .ok (.getfield 257, 3) := by decide +kernel
theorem dX9_takeFrameOff_8 : decode (mC M_X9_takeFrameOff) 8 = .ok (.ifnonnull 4, 3) := by decide +kernel
theorem dX9_takeFrameOff_11 : decode (mC M_X9_takeFrameOff) 11 = .ok (.return_, 1) := by decide +kernel
theorem dX9_takeFrameOff_12 : decode (mC M_X9_takeFrameOff) 12 = .ok (.aload_n 1, 1) := by decide +kernel
theorem dX9_takeFrameOff_13 : decode (mC M_X9_takeFrameOff) 13 = .ok (.getfield 257, 3) := by decide +kernel
theorem dX9_takeFrameOff_16 : decode (mC M_X9_takeFrameOff) 16 = .ok (.aconst_null, 1) := by decide +kernel
theorem dX9_takeFrameOff_17 : decode (mC M_X9_takeFrameOff) 17 = .ok (.putfield 185, 3) := by decide +kernel
theorem dX9_takeFrameOff_20 : decode (mC M_X9_takeFrameOff) 20 = .ok (.aload_n 1, 1) := by decide +kernel
theorem dX9_takeFrameOff_21 : decode (mC M_X9_takeFrameOff) 21 = .ok (.aconst_null, 1) := by decide +kernel
theorem dX9_takeFrameOff_22 : decode (mC M_X9_takeFrameOff) 22 = .ok (.putfield 257, 3) := by decide +kernel
theorem dX9_takeFrameOff_25 : decode (mC M_X9_takeFrameOff) 25 = .ok (.aload_n 1, 1) := by decide +kernel
theorem dX9_takeFrameOff_26 : decode (mC M_X9_takeFrameOff) 26 = .ok (.getfield 343, 3) := by decide +kernel
theorem dX9_takeFrameOff_29 : decode (mC M_X9_takeFrameOff) 29 = .ok (.ifnull 19, 3) := by decide +kernel
theorem dX9_takeFrameOff_32 : decode (mC M_X9_takeFrameOff) 32 = .ok (.aload_n 1, 1) := by decide +kernel
theorem dX9_takeFrameOff_33 : decode (mC M_X9_takeFrameOff) 33 = .ok (.getfield 343, 3) := by decide +kernel
theorem dX9_takeFrameOff_36 : decode (mC M_X9_takeFrameOff) 36 = .ok (.aload_n 0, 1) := by decide +kernel
theorem dX9_takeFrameOff_37 : decode (mC M_X9_takeFrameOff) 37 = .ok (.getfield 102, 3) := by decide +kernel
theorem dX9_takeFrameOff_40 : decode (mC M_X9_takeFrameOff) 40 = .ok (.invokevirtual 347, 3) := by decide +kernel
theorem dX9_takeFrameOff_43 : decode (mC M_X9_takeFrameOff) 43 = .ok (.aload_n 1, 1) := by decide +kernel
theorem dX9_takeFrameOff_44 : decode (mC M_X9_takeFrameOff) 44 = .ok (.aconst_null, 1) := by decide +kernel
theorem dX9_takeFrameOff_45 : decode (mC M_X9_takeFrameOff) 45 = .ok (.putfield 343, 3) := by decide +kernel
theorem dX9_takeFrameOff_48 : decode (mC M_X9_takeFrameOff) 48 = .ok (.return_, 1) := by decide +kernel
theorem dX9_countWin_0 : decode (mC M_X9_countWin) 0 = .ok (.aload_n 1, 1) := by decide +kernel
theorem dX9_countWin_1 : decode (mC M_X9_countWin) 1 = .ok (.getfield 285, 3) := by decide +kernel
theorem dX9_countWin_4 : decode (mC M_X9_countWin) 4 = .ok (.istore_n 2, 1) := by decide +kernel
theorem dX9_countWin_5 : decode (mC M_X9_countWin) 5 = .ok (.aload_n 1, 1) := by decide +kernel
theorem dX9_countWin_6 : decode (mC M_X9_countWin) 6 = .ok (.getfield 173, 3) := by decide +kernel
theorem dX9_countWin_9 : decode (mC M_X9_countWin) 9 = .ok (.ifCond .eq 26, 3) := by decide +kernel
theorem dX9_countWin_12 : decode (mC M_X9_countWin) 12 = .ok (.iload_n 2, 1) := by decide +kernel
theorem dX9_countWin_13 : decode (mC M_X9_countWin) 13 = .ok (.ifCond .lt 22, 3) := by decide +kernel
theorem dX9_countWin_16 : decode (mC M_X9_countWin) 16 = .ok (.iload_n 2, 1) := by decide +kernel
theorem dX9_countWin_17 : decode (mC M_X9_countWin) 17 = .ok (.aload_n 0, 1) := by decide +kernel
theorem dX9_countWin_18 : decode (mC M_X9_countWin) 18 = .ok (.getfield 49, 3) := by decide +kernel
theorem dX9_countWin_21 : decode (mC M_X9_countWin) 21 = .ok (.arraylength, 1) := by decide +kernel
theorem dX9_countWin_22 : decode (mC M_X9_countWin) 22 = .ok (.if_icmp .ge 13, 3) := by decide +kernel
theorem dX9_countWin_25 : decode (mC M_X9_countWin) 25 = .ok (.aload_n 0, 1) := by decide +kernel
theorem dX9_countWin_26 : decode (mC M_X9_countWin) 26 = .ok (.getfield 49, 3) := by decide +kernel
theorem dX9_countWin_29 : decode (mC M_X9_countWin) 29 = .ok (.iload_n 2, 1) := by decide +kernel
theorem dX9_countWin_30 : decode (mC M_X9_countWin) 30 = .ok (.dup2, 1) := by decide +kernel
theorem dX9_countWin_31 : decode (mC M_X9_countWin) 31 = .ok (.iaload, 1) := by decide +kernel
theorem dX9_countWin_32 : decode (mC M_X9_countWin) 32 = .ok (.iconst 1, 1) := by decide +kernel
theorem dX9_countWin_33 : decode (mC M_X9_countWin) 33 = .ok (.iadd, 1) := by decide +kernel
theorem dX9_countWin_34 : decode (mC M_X9_countWin) 34 = .ok (.iastore, 1) := by decide +kernel
theorem dX9_countWin_35 : decode (mC M_X9_countWin) 35 = .ok (.return_, 1) := by decide +kernel
theorem dX9_cueHeldBy_0 : decode (mC M_X9_cueHeldBy) 0 = .ok (.aload_n 0, 1) := by decide +kernel
theorem dX9_cueHeldBy_1 : decode (mC M_X9_cueHeldBy) 1 = .ok (.getfield 17, 3) := by decide +kernel
theorem dX9_cueHeldBy_4 : decode (mC M_X9_cueHeldBy) 4 = .ok (.astore_n 2, 1) := by decide +kernel
theorem dX9_cueHeldBy_5 : decode (mC M_X9_cueHeldBy) 5 = .ok (.aload_n 2, 1) := by decide +kernel
theorem dX9_cueHeldBy_6 : decode (mC M_X9_cueHeldBy) 6 = .ok (.arraylength, 1) := by decide +kernel
theorem dX9_cueHeldBy_7 : decode (mC M_X9_cueHeldBy) 7 = .ok (.istore_n 3, 1) := by decide +kernel
theorem dX9_cueHeldBy_8 : decode (mC M_X9_cueHeldBy) 8 = .ok (.iconst 0, 1) := by decide +kernel
theorem dX9_cueHeldBy_9 : decode (mC M_X9_cueHeldBy) 9 = .ok (.istore 4, 2) := by decide +kernel
theorem dX9_cueHeldBy_11 : decode (mC M_X9_cueHeldBy) 11 = .ok (.iload 4, 2) := by decide +kernel
theorem dX9_cueHeldBy_13 : decode (mC M_X9_cueHeldBy) 13 = .ok (.iload_n 3, 1) := by decide +kernel
theorem dX9_cueHeldBy_14 : decode (mC M_X9_cueHeldBy) 14 = .ok (.if_icmp .ge 32, 3) := by decide +kernel
theorem dX9_cueHeldBy_17 : decode (mC M_X9_cueHeldBy) 17 = .ok (.aload_n 2, 1) := by decide +kernel
theorem dX9_cueHeldBy_18 : decode (mC M_X9_cueHeldBy) 18 = .ok (.iload 4, 2) := by decide +kernel
theorem dX9_cueHeldBy_20 : decode (mC M_X9_cueHeldBy) 20 = .ok (.aaload, 1) := by decide +kernel
theorem dX9_cueHeldBy_21 : decode (mC M_X9_cueHeldBy) 21 = .ok (.astore 5, 2) := by decide +kernel
theorem dX9_cueHeldBy_23 : decode (mC M_X9_cueHeldBy) 23 = .ok (.aload 5, 2) := by decide +kernel
theorem dX9_cueHeldBy_25 : decode (mC M_X9_cueHeldBy) 25 = .ok (.ifnull 15, 3) := by decide +kernel
theorem dX9_cueHeldBy_28 : decode (mC M_X9_cueHeldBy) 28 = .ok (.aload 5, 2) := by decide +kernel
theorem dX9_cueHeldBy_30 : decode (mC M_X9_cueHeldBy) 30 = .ok (.iload_n 1, 1) := by decide +kernel
theorem dX9_cueHeldBy_31 : decode (mC M_X9_cueHeldBy) 31 = .ok (.invokevirtual 292, 3) := by decide +kernel
theorem dX9_cueHeldBy_34 : decode (mC M_X9_cueHeldBy) 34 = .ok (.ifCond .eq 6, 3) := by decide +kernel
theorem dX9_cueHeldBy_37 : decode (mC M_X9_cueHeldBy) 37 = .ok (.aload 5, 2) := by decide +kernel
theorem dX9_cueHeldBy_39 : decode (mC M_X9_cueHeldBy) 39 = .ok (.areturn, 1) := by decide +kernel
theorem dX9_cueHeldBy_40 : decode (mC M_X9_cueHeldBy) 40 = .ok (.iinc 4 1, 3) := by decide +kernel
theorem dX9_cueHeldBy_43 : decode (mC M_X9_cueHeldBy) 43 = .ok (.goto (-32), 3) := by decide +kernel
theorem dX9_cueHeldBy_46 : decode (mC M_X9_cueHeldBy) 46 = .ok (.aconst_null, 1) := by decide +kernel
theorem dX9_cueHeldBy_47 : decode (mC M_X9_cueHeldBy) 47 = .ok (.areturn, 1) := by decide +kernel
theorem dX9_forceWith_0 : decode (mC M_X9_forceWith) 0 = .ok (.aload_n 0, 1) := by decide +kernel
theorem dX9_forceWith_1 : decode (mC M_X9_forceWith) 1 = .ok (.ifnonnull 11, 3) := by decide +kernel
theorem dX9_forceWith_4 : decode (mC M_X9_forceWith) 4 = .ok (.iload_n 1, 1) := by decide +kernel
theorem dX9_forceWith_5 : decode (mC M_X9_forceWith) 5 = .ok (.iconst 3, 1) := by decide +kernel
theorem dX9_forceWith_6 : decode (mC M_X9_forceWith) 6 = .ok (.imul, 1) := by decide +kernel
theorem dX9_forceWith_7 : decode (mC M_X9_forceWith) 7 = .ok (.iconst 4, 1) := by decide +kernel
theorem dX9_forceWith_8 : decode (mC M_X9_forceWith) 8 = .ok (.idiv, 1) := by decide +kernel
theorem dX9_forceWith_9 : decode (mC M_X9_forceWith) 9 = .ok (.goto 17, 3) := by decide +kernel
theorem dX9_forceWith_12 : decode (mC M_X9_forceWith) 12 = .ok (.iload_n 1, 1) := by decide +kernel
theorem dX9_forceWith_13 : decode (mC M_X9_forceWith) 13 = .ok (.sipush 200, 3) := by decide +kernel
theorem dX9_forceWith_16 : decode (mC M_X9_forceWith) 16 = .ok (.aload_n 0, 1) := by decide +kernel
theorem dX9_forceWith_17 : decode (mC M_X9_forceWith) 17 = .ok (.getfield 231, 3) := by decide +kernel
theorem dX9_forceWith_20 : decode (mC M_X9_forceWith) 20 = .ok (.isub, 1) := by decide +kernel
theorem dX9_forceWith_21 : decode (mC M_X9_forceWith) 21 = .ok (.imul, 1) := by decide +kernel
theorem dX9_forceWith_22 : decode (mC M_X9_forceWith) 22 = .ok (.sipush 200, 3) := by decide +kernel
theorem dX9_forceWith_25 : decode (mC M_X9_forceWith) 25 = .ok (.idiv, 1) := by decide +kernel
theorem dX9_forceWith_26 : decode (mC M_X9_forceWith) 26 = .ok (.istore_n 2, 1) := by decide +kernel
theorem dX9_forceWith_27 : decode (mC M_X9_forceWith) 27 = .ok (.iconst 1, 1) := by decide +kernel
theorem dX9_forceWith_28 : decode (mC M_X9_forceWith) 28 = .ok (.iload_n 2, 1) := by decide +kernel
theorem dX9_forceWith_29 : decode (mC M_X9_forceWith) 29 = .ok (.invokestatic 348, 3) := by decide +kernel
theorem dX9_forceWith_32 : decode (mC M_X9_forceWith) 32 = .ok (.ireturn, 1) := by decide +kernel
theorem dX9_contactsOf_0 : decode (mC M_X9_contactsOf) 0 = .ok (.aload_n 0, 1) := by decide +kernel
theorem dX9_contactsOf_1 : decode (mC M_X9_contactsOf) 1 = .ok (.iload_n 2, 1) := by decide +kernel
theorem dX9_contactsOf_2 : decode (mC M_X9_contactsOf) 2 = .ok (.invokevirtual 164, 3) := by decide +kernel
theorem dX9_contactsOf_5 : decode (mC M_X9_contactsOf) 5 = .ok (.astore 5, 2) := by decide +kernel
theorem dX9_contactsOf_7 : decode (mC M_X9_contactsOf) 7 = .ok (.iload_n 3, 1) := by decide +kernel
theorem dX9_contactsOf_8 : decode (mC M_X9_contactsOf) 8 = .ok (.iconst 0, 1) := by decide +kernel
theorem dX9_contactsOf_9 : decode (mC M_X9_contactsOf) 9 = .ok (.bipush 7, 2) := by decide +kernel
theorem dX9_contactsOf_11 : decode (mC M_X9_contactsOf) 11 = .ok (.invokestatic 71, 3) := by decide +kernel
theorem dX9_contactsOf_14 : decode (mC M_X9_contactsOf) 14 = .ok (.iload 4, 2) := by decide +kernel
theorem dX9_contactsOf_16 : decode (mC M_X9_contactsOf) 16 = .ok (.iconst 1, 1) := by decide +kernel
theorem dX9_contactsOf_17 : decode (mC M_X9_contactsOf) 17 = .ok (.bipush 40, 2) := by decide +kernel
theorem dX9_contactsOf_19 : decode (mC M_X9_contactsOf) 19 = .ok (.invokestatic 71, 3) := by decide +kernel
theorem dX9_contactsOf_22 : decode (mC M_X9_contactsOf) 22 = .ok (.aload_n 1, 1) := by decide +kernel
theorem dX9_contactsOf_23 : decode (mC M_X9_contactsOf) 23 = .ok (.aload 5, 2) := by decide +kernel
theorem dX9_contactsOf_25 : decode (mC M_X9_contactsOf) 25 = .ok (.getfield 195, 3) := by decide +kernel
theorem dX9_contactsOf_28 : decode (mC M_X9_contactsOf) 28 = .ok (.iload_n 3, 1) := by decide +kernel
theorem dX9_contactsOf_29 : decode (mC M_X9_contactsOf) 29 = .ok (.iload 4, 2) := by decide +kernel
theorem dX9_contactsOf_31 : decode (mC M_X9_contactsOf) 31 = .ok (.invokevirtual 202, 3) := by decide +kernel
theorem dX9_contactsOf_34 : decode (mC M_X9_contactsOf) 34 = .ok (.aload_n 1, 1) := by decide +kernel
theorem dX9_contactsOf_35 : decode (mC M_X9_contactsOf) 35 = .ok (.getfield 353, 3) := by decide +kernel
theorem dX9_contactsOf_38 : decode (mC M_X9_contactsOf) 38 = .ok (.ireturn, 1) := by decide +kernel
theorem dX9_cellBeside_0 : decode (mC M_X9_cellBeside) 0 = .ok (.iload_n 0, 1) := by decide +kernel
theorem dX9_cellBeside_1 : decode (mC M_X9_cellBeside) 1 = .ok (.ifCond .lt 13, 3) := by decide +kernel
theorem dX9_cellBeside_4 : decode (mC M_X9_cellBeside) 4 = .ok (.iload_n 1, 1) := by decide +kernel
theorem dX9_cellBeside_5 : decode (mC M_X9_cellBeside) 5 = .ok (.ifCond .lt 9, 3) := by decide +kernel
theorem dX9_cellBeside_8 : decode (mC M_X9_cellBeside) 8 = .ok (.iload_n 1, 1) := by decide +kernel
theorem dX9_cellBeside_9 : decode (mC M_X9_cellBeside) 9 = .ok (.bipush 8, 2) := by decide +kernel
theorem dX9_cellBeside_11 : decode (mC M_X9_cellBeside) 11 = .ok (.if_icmp .lt 5, 3) := by decide +kernel
theorem dX9_cellBeside_14 : decode (mC M_X9_cellBeside) 14 = .ok (.iconst (-1), 1) := by decide +kernel
theorem dX9_cellBeside_15 : decode (mC M_X9_cellBeside) 15 = .ok (.ireturn, 1) := by decide +kernel
theorem dX9_cellBeside_16 : decode (mC M_X9_cellBeside) 16 = .ok (.iload_n 0, 1) := by decide +kernel
theorem dX9_cellBeside_17 : decode (mC M_X9_cellBeside) 17 = .ok (.bipush 16, 2) := by decide +kernel
theorem dX9_cellBeside_19 : decode (mC M_X9_cellBeside) 19 = .ok (.irem, 1) := by decide +kernel
theorem dX9_cellBeside_20 : decode (mC M_X9_cellBeside) 20 = .ok (.getstatic 356, 3) := by decide +kernel
theorem dX9_cellBeside_23 : decode (mC M_X9_cellBeside) 23 = .ok (.iload_n 1, 1) := by decide +kernel
theorem dX9_cellBeside_24 : decode (mC M_X9_cellBeside) 24 = .ok (.iaload, 1) := by decide +kernel
theorem dX9_cellBeside_25 : decode (mC M_X9_cellBeside) 25 = .ok (.iadd, 1) := by decide +kernel
theorem dX9_cellBeside_26 : decode (mC M_X9_cellBeside) 26 = .ok (.istore_n 2, 1) := by decide +kernel
theorem dX9_cellBeside_27 : decode (mC M_X9_cellBeside) 27 = .ok (.iload_n 0, 1) := by decide +kernel
theorem dX9_cellBeside_28 : decode (mC M_X9_cellBeside) 28 = .ok (.bipush 16, 2) := by decide +kernel
theorem dX9_cellBeside_30 : decode (mC M_X9_cellBeside) 30 = .ok (.idiv, 1) := by decide +kernel
theorem dX9_cellBeside_31 : decode (mC M_X9_cellBeside) 31 = .ok (.getstatic 359, 3) := by decide +kernel
theorem dX9_cellBeside_34 : decode (mC M_X9_cellBeside) 34 = .ok (.iload_n 1, 1) := by decide +kernel
theorem dX9_cellBeside_35 : decode (mC M_X9_cellBeside) 35 = .ok (.iaload, 1) := by decide +kernel
theorem dX9_cellBeside_36 : decode (mC M_X9_cellBeside) 36 = .ok (.iadd, 1) := by decide +kernel
theorem dX9_cellBeside_37 : decode (mC M_X9_cellBeside) 37 = .ok (.istore_n 3, 1) := by decide +kernel
theorem dX9_cellBeside_38 : decode (mC M_X9_cellBeside) 38 = .ok (.iload_n 2, 1) := by decide +kernel
theorem dX9_cellBeside_39 : decode (mC M_X9_cellBeside) 39 = .ok (.invokestatic 362, 3) := by decide +kernel
theorem dX9_cellBeside_42 : decode (mC M_X9_cellBeside) 42 = .ok (.ifCond .eq 19, 3) := by decide +kernel
theorem dX9_cellBeside_45 : decode (mC M_X9_cellBeside) 45 = .ok (.iload_n 3, 1) := by decide +kernel
theorem dX9_cellBeside_46 : decode (mC M_X9_cellBeside) 46 = .ok (.invokestatic 365, 3) := by decide +kernel
theorem dX9_cellBeside_49 : decode (mC M_X9_cellBeside) 49 = .ok (.ifCond .eq 12, 3) := by decide +kernel
theorem dX9_cellBeside_52 : decode (mC M_X9_cellBeside) 52 = .ok (.bipush 16, 2) := by decide +kernel
theorem dX9_cellBeside_54 : decode (mC M_X9_cellBeside) 54 = .ok (.iload_n 3, 1) := by decide +kernel
theorem dX9_cellBeside_55 : decode (mC M_X9_cellBeside) 55 = .ok (.imul, 1) := by decide +kernel
theorem dX9_cellBeside_56 : decode (mC M_X9_cellBeside) 56 = .ok (.iload_n 2, 1) := by decide +kernel
theorem dX9_cellBeside_57 : decode (mC M_X9_cellBeside) 57 = .ok (.iadd, 1) := by decide +kernel
theorem dX9_cellBeside_58 : decode (mC M_X9_cellBeside) 58 = .ok (.goto 4, 3) := by decide +kernel
theorem dX9_cellBeside_61 : decode (mC M_X9_cellBeside) 61 = .ok (.iconst (-1), 1) := by decide +kernel
theorem dX9_cellBeside_62 : decode (mC M_X9_cellBeside) 62 = .ok (.ireturn, 1) := by decide +kernel
theorem dX9_isColumn_0 : decode (mC M_X9_isColumn) 0 = .ok (.iload_n 0, 1) := by decide +kernel
theorem dX9_isColumn_1 : decode (mC M_X9_isColumn) 1 = .ok (.ifCond .lt 13, 3) := by decide +kernel
theorem dX9_isColumn_4 : decode (mC M_X9_isColumn) 4 = .ok (.iload_n 0, 1) := by decide +kernel
theorem dX9_isColumn_5 : decode (mC M_X9_isColumn) 5 = .ok (.bipush 16, 2) := by decide +kernel
theorem dX9_isColumn_7 : decode (mC M_X9_isColumn) 7 = .ok (.if_icmp .ge 7, 3) := by decide +kernel
theorem dX9_isColumn_10 : decode (mC M_X9_isColumn) 10 = .ok (.iconst 1, 1) := by decide +kernel
theorem dX9_isColumn_11 : decode (mC M_X9_isColumn) 11 = .ok (.goto 4, 3) := by decide +kernel
theorem dX9_isColumn_14 : decode (mC M_X9_isColumn) 14 = .ok (.iconst 0, 1) := by decide +kernel
theorem dX9_isColumn_15 : decode (mC M_X9_isColumn) 15 = .ok (.ireturn, 1) := by decide +kernel
theorem dX9_isRow_0 : decode (mC M_X9_isRow) 0 = .ok (.iload_n 0, 1) := by decide +kernel
theorem dX9_isRow_1 : decode (mC M_X9_isRow) 1 = .ok (.ifCond .lt 13, 3) := by decide +kernel
theorem dX9_isRow_4 : decode (mC M_X9_isRow) 4 = .ok (.iload_n 0, 1) := by decide +kernel
theorem dX9_isRow_5 : decode (mC M_X9_isRow) 5 = .ok (.bipush 8, 2) := by decide +kernel
theorem dX9_isRow_7 : decode (mC M_X9_isRow) 7 = .ok (.if_icmp .ge 7, 3) := by decide +kernel
theorem dX9_isRow_10 : decode (mC M_X9_isRow) 10 = .ok (.iconst 1, 1) := by decide +kernel
theorem dX9_isRow_11 : decode (mC M_X9_isRow) 11 = .ok (.goto 4, 3) := by decide +kernel
theorem dX9_isRow_14 : decode (mC M_X9_isRow) 14 = .ok (.iconst 0, 1) := by decide +kernel
theorem dX9_isRow_15 : decode (mC M_X9_isRow) 15 = .ok (.ireturn, 1) := by decide +kernel
theorem dX9_isPocket_0 : decode (mC M_X9_isPocket) 0 = .ok (.getstatic 368, 3) := by decide +kernel
theorem dX9_isPocket_3 : decode (mC M_X9_isPocket) 3 = .ok (.astore_n 1, 1) := by decide +kernel
theorem dX9_isPocket_4 : decode (mC M_X9_isPocket) 4 = .ok (.aload_n 1, 1) := by decide +kernel
theorem dX9_isPocket_5 : decode (mC M_X9_isPocket) 5 = .ok (.arraylength, 1) := by decide +kernel
theorem dX9_isPocket_6 : decode (mC M_X9_isPocket) 6 = .ok (.istore_n 2, 1) := by decide +kernel
theorem dX9_isPocket_7 : decode (mC M_X9_isPocket) 7 = .ok (.iconst 0, 1) := by decide +kernel
theorem dX9_isPocket_8 : decode (mC M_X9_isPocket) 8 = .ok (.istore_n 3, 1) := by decide +kernel
theorem dX9_isPocket_9 : decode (mC M_X9_isPocket) 9 = .ok (.iload_n 3, 1) := by decide +kernel
theorem dX9_isPocket_10 : decode (mC M_X9_isPocket) 10 = .ok (.iload_n 2, 1) := by decide +kernel
theorem dX9_isPocket_11 : decode (mC M_X9_isPocket) 11 = .ok (.if_icmp .ge 22, 3) := by decide +kernel
theorem dX9_isPocket_14 : decode (mC M_X9_isPocket) 14 = .ok (.aload_n 1, 1) := by decide +kernel
theorem dX9_isPocket_15 : decode (mC M_X9_isPocket) 15 = .ok (.iload_n 3, 1) := by decide +kernel
theorem dX9_isPocket_16 : decode (mC M_X9_isPocket) 16 = .ok (.iaload, 1) := by decide +kernel
theorem dX9_isPocket_17 : decode (mC M_X9_isPocket) 17 = .ok (.istore 4, 2) := by decide +kernel
theorem dX9_isPocket_19 : decode (mC M_X9_isPocket) 19 = .ok (.iload 4, 2) := by decide +kernel
theorem dX9_isPocket_21 : decode (mC M_X9_isPocket) 21 = .ok (.iload_n 0, 1) := by decide +kernel
theorem dX9_isPocket_22 : decode (mC M_X9_isPocket) 22 = .ok (.if_icmp .ne 5, 3) := by decide +kernel
theorem dX9_isPocket_25 : decode (mC M_X9_isPocket) 25 = .ok (.iconst 1, 1) := by decide +kernel
theorem dX9_isPocket_26 : decode (mC M_X9_isPocket) 26 = .ok (.ireturn, 1) := by decide +kernel
theorem dX9_isPocket_27 : decode (mC M_X9_isPocket) 27 = .ok (.iinc 3 1, 3) := by decide +kernel
theorem dX9_isPocket_30 : decode (mC M_X9_isPocket) 30 = .ok (.goto (-21), 3) := by decide +kernel
theorem dX9_isPocket_33 : decode (mC M_X9_isPocket) 33 = .ok (.iconst 0, 1) := by decide +kernel
theorem dX9_isPocket_34 : decode (mC M_X9_isPocket) 34 = .ok (.ireturn, 1) := by decide +kernel
theorem dX9_turnedBack_0 : decode (mC M_X9_turnedBack) 0 = .ok (.iload_n 0, 1) := by decide +kernel
theorem dX9_turnedBack_1 : decode (mC M_X9_turnedBack) 1 = .ok (.ifCond .lt 13, 3) := by decide +kernel
theorem dX9_turnedBack_4 : decode (mC M_X9_turnedBack) 4 = .ok (.iload_n 1, 1) := by decide +kernel
theorem dX9_turnedBack_5 : decode (mC M_X9_turnedBack) 5 = .ok (.ifCond .lt 9, 3) := by decide +kernel
theorem dX9_turnedBack_8 : decode (mC M_X9_turnedBack) 8 = .ok (.iload_n 1, 1) := by decide +kernel
theorem dX9_turnedBack_9 : decode (mC M_X9_turnedBack) 9 = .ok (.bipush 8, 2) := by decide +kernel
theorem dX9_turnedBack_11 : decode (mC M_X9_turnedBack) 11 = .ok (.if_icmp .lt 5, 3) := by decide +kernel
theorem dX9_turnedBack_14 : decode (mC M_X9_turnedBack) 14 = .ok (.iload_n 1, 1) := by decide +kernel
theorem dX9_turnedBack_15 : decode (mC M_X9_turnedBack) 15 = .ok (.ireturn, 1) := by decide +kernel
theorem dX9_turnedBack_16 : decode (mC M_X9_turnedBack) 16 = .ok (.iload_n 1, 1) := by decide +kernel
theorem dX9_turnedBack_17 : decode (mC M_X9_turnedBack) 17 = .ok (.istore_n 2, 1) := by decide +kernel
theorem dX9_turnedBack_18 : decode (mC M_X9_turnedBack) 18 = .ok (.iload_n 0, 1) := by decide +kernel
theorem dX9_turnedBack_19 : decode (mC M_X9_turnedBack) 19 = .ok (.bipush 16, 2) := by decide +kernel
theorem dX9_turnedBack_21 : decode (mC M_X9_turnedBack) 21 = .ok (.irem, 1) := by decide +kernel
theorem dX9_turnedBack_22 : decode (mC M_X9_turnedBack) 22 = .ok (.getstatic 356, 3) := by decide +kernel
theorem dX9_turnedBack_25 : decode (mC M_X9_turnedBack) 25 = .ok (.iload_n 1, 1) := by decide +kernel
theorem dX9_turnedBack_26 : decode (mC M_X9_turnedBack) 26 = .ok (.iaload, 1) := by decide +kernel
theorem dX9_turnedBack_27 : decode (mC M_X9_turnedBack) 27 = .ok (.iadd, 1) := by decide +kernel
theorem dX9_turnedBack_28 : decode (mC M_X9_turnedBack) 28 = .ok (.invokestatic 362, 3) := by decide +kernel
theorem dX9_turnedBack_31 : decode (mC M_X9_turnedBack) 31 = .ok (.ifCond .ne 11, 3) := by decide +kernel
theorem dX9_turnedBack_34 : decode (mC M_X9_turnedBack) 34 = .ok (.bipush 8, 2) := by decide +kernel
theorem dX9_turnedBack_36 : decode (mC M_X9_turnedBack) 36 = .ok (.iload_n 2, 1) := by decide +kernel
theorem dX9_turnedBack_37 : decode (mC M_X9_turnedBack) 37 = .ok (.isub, 1) := by decide +kernel
theorem dX9_turnedBack_38 : decode (mC M_X9_turnedBack) 38 = .ok (.bipush 8, 2) := by decide +kernel
theorem dX9_turnedBack_40 : decode (mC M_X9_turnedBack) 40 = .ok (.irem, 1) := by decide +kernel
theorem dX9_turnedBack_41 : decode (mC M_X9_turnedBack) 41 = .ok (.istore_n 2, 1) := by decide +kernel
theorem dX9_turnedBack_42 : decode (mC M_X9_turnedBack) 42 = .ok (.iload_n 0, 1) := by decide +kernel
theorem dX9_turnedBack_43 : decode (mC M_X9_turnedBack) 43 = .ok (.bipush 16, 2) := by decide +kernel
theorem dX9_turnedBack_45 : decode (mC M_X9_turnedBack) 45 = .ok (.idiv, 1) := by decide +kernel
theorem dX9_turnedBack_46 : decode (mC M_X9_turnedBack) 46 = .ok (.getstatic 359, 3) := by decide +kernel
theorem dX9_turnedBack_49 : decode (mC M_X9_turnedBack) 49 = .ok (.iload_n 1, 1) := by decide +kernel
theorem dX9_turnedBack_50 : decode (mC M_X9_turnedBack) 50 = .ok (.iaload, 1) := by decide +kernel
theorem dX9_turnedBack_51 : decode (mC M_X9_turnedBack) 51 = .ok (.iadd, 1) := by decide +kernel
theorem dX9_turnedBack_52 : decode (mC M_X9_turnedBack) 52 = .ok (.invokestatic 365, 3) := by decide +kernel
theorem dX9_turnedBack_55 : decode (mC M_X9_turnedBack) 55 = .ok (.ifCond .ne 11, 3) := by decide +kernel
theorem dX9_turnedBack_58 : decode (mC M_X9_turnedBack) 58 = .ok (.bipush 12, 2) := by decide +kernel
theorem dX9_turnedBack_60 : decode (mC M_X9_turnedBack) 60 = .ok (.iload_n 2, 1) := by decide +kernel
theorem dX9_turnedBack_61 : decode (mC M_X9_turnedBack) 61 = .ok (.isub, 1) := by decide +kernel
theorem dX9_turnedBack_62 : decode (mC M_X9_turnedBack) 62 = .ok (.bipush 8, 2) := by decide +kernel
theorem dX9_turnedBack_64 : decode (mC M_X9_turnedBack) 64 = .ok (.irem, 1) := by decide +kernel
theorem dX9_turnedBack_65 : decode (mC M_X9_turnedBack) 65 = .ok (.istore_n 2, 1) := by decide +kernel
theorem dX9_turnedBack_66 : decode (mC M_X9_turnedBack) 66 = .ok (.iload_n 2, 1) := by decide +kernel
theorem dX9_turnedBack_67 : decode (mC M_X9_turnedBack) 67 = .ok (.ireturn, 1) := by decide +kernel
theorem dL_act_0 : decode (mC M_L_act) 0 = .ok (.iload_n 1, 1) := by decide +kernel
theorem dL_act_1 : decode (mC M_L_act) 1 = .ok (.ifCond .ne 11, 3) := by decide +kernel
theorem dL_act_4 : decode (mC M_L_act) 4 = .ok (.aload_n 0, 1) := by decide +kernel
theorem dL_act_5 : decode (mC M_L_act) 5 = .ok (.iload_n 2, 1) := by decide +kernel
theorem dL_act_6 : decode (mC M_L_act) 6 = .ok (.invokevirtual 7, 3) := by decide +kernel
theorem dL_act_9 : decode (mC M_L_act) 9 = .ok (.goto 485, 3) := by decide +kernel
theorem dL_act_12 : decode (mC M_L_act) 12 = .ok (.iload_n 1, 1) := by decide +kernel
theorem dL_act_13 : decode (mC M_L_act) 13 = .ok (.iconst 1, 1) := by decide +kernel
theorem dL_act_14 : decode (mC M_L_act) 14 = .ok (.if_icmp .ne 12, 3) := by decide +kernel
theorem dL_act_17 : decode (mC M_L_act) 17 = .ok (.aload_n 0, 1) := by decide +kernel
theorem dL_act_18 : decode (mC M_L_act) 18 = .ok (.iload_n 2, 1) := by decide +kernel
theorem dL_act_19 : decode (mC M_L_act) 19 = .ok (.iload_n 3, 1) := by decide +kernel
theorem dL_act_20 : decode (mC M_L_act) 20 = .ok (.invokevirtual 13, 3) := by decide +kernel
theorem dL_act_23 : decode (mC M_L_act) 23 = .ok (.goto 471, 3) := by decide +kernel
theorem dL_act_26 : decode (mC M_L_act) 26 = .ok (.iload_n 1, 1) := by decide +kernel
theorem dL_act_27 : decode (mC M_L_act) 27 = .ok (.iconst 2, 1) := by decide +kernel
theorem dL_act_28 : decode (mC M_L_act) 28 = .ok (.if_icmp .ne 11, 3) := by decide +kernel
theorem dL_act_31 : decode (mC M_L_act) 31 = .ok (.aload_n 0, 1) := by decide +kernel
theorem dL_act_32 : decode (mC M_L_act) 32 = .ok (.iload_n 2, 1) := by decide +kernel
theorem dL_act_33 : decode (mC M_L_act) 33 = .ok (.invokevirtual 17, 3) := by decide +kernel
theorem dL_act_36 : decode (mC M_L_act) 36 = .ok (.goto 458, 3) := by decide +kernel
theorem dL_act_39 : decode (mC M_L_act) 39 = .ok (.iload_n 1, 1) := by decide +kernel
theorem dL_act_40 : decode (mC M_L_act) 40 = .ok (.iconst 3, 1) := by decide +kernel
theorem dL_act_41 : decode (mC M_L_act) 41 = .ok (.if_icmp .ne 11, 3) := by decide +kernel
theorem dL_act_44 : decode (mC M_L_act) 44 = .ok (.aload_n 0, 1) := by decide +kernel
theorem dL_act_45 : decode (mC M_L_act) 45 = .ok (.iload_n 2, 1) := by decide +kernel
theorem dL_act_46 : decode (mC M_L_act) 46 = .ok (.invokevirtual 20, 3) := by decide +kernel
theorem dL_act_49 : decode (mC M_L_act) 49 = .ok (.goto 445, 3) := by decide +kernel
theorem dL_act_52 : decode (mC M_L_act) 52 = .ok (.iload_n 1, 1) := by decide +kernel
theorem dL_act_53 : decode (mC M_L_act) 53 = .ok (.iconst 4, 1) := by decide +kernel
theorem dL_act_54 : decode (mC M_L_act) 54 = .ok (.if_icmp .ne 11, 3) := by decide +kernel
theorem dL_act_57 : decode (mC M_L_act) 57 = .ok (.aload_n 0, 1) := by decide +kernel
theorem dL_act_58 : decode (mC M_L_act) 58 = .ok (.iload_n 2, 1) := by decide +kernel
theorem dL_act_59 : decode (mC M_L_act) 59 = .ok (.invokevirtual 23, 3) := by decide +kernel
theorem dL_act_62 : decode (mC M_L_act) 62 = .ok (.goto 432, 3) := by decide +kernel
theorem dL_act_65 : decode (mC M_L_act) 65 = .ok (.iload_n 1, 1) := by decide +kernel
theorem dL_act_66 : decode (mC M_L_act) 66 = .ok (.iconst 5, 1) := by decide +kernel
theorem dL_act_67 : decode (mC M_L_act) 67 = .ok (.if_icmp .ne 11, 3) := by decide +kernel
theorem dL_act_70 : decode (mC M_L_act) 70 = .ok (.aload_n 0, 1) := by decide +kernel
theorem dL_act_71 : decode (mC M_L_act) 71 = .ok (.iload_n 2, 1) := by decide +kernel
theorem dL_act_72 : decode (mC M_L_act) 72 = .ok (.invokevirtual 26, 3) := by decide +kernel
theorem dL_act_75 : decode (mC M_L_act) 75 = .ok (.goto 419, 3) := by decide +kernel
theorem dL_act_78 : decode (mC M_L_act) 78 = .ok (.iload_n 1, 1) := by decide +kernel
theorem dL_act_79 : decode (mC M_L_act) 79 = .ok (.bipush 6, 2) := by decide +kernel
theorem dL_act_81 : decode (mC M_L_act) 81 = .ok (.if_icmp .ne 15, 3) := by decide +kernel
theorem dL_act_84 : decode (mC M_L_act) 84 = .ok (.aload_n 0, 1) := by decide +kernel
theorem dL_act_85 : decode (mC M_L_act) 85 = .ok (.iload_n 2, 1) := by decide +kernel
theorem dL_act_86 : decode (mC M_L_act) 86 = .ok (.iload_n 3, 1) := by decide +kernel
theorem dL_act_87 : decode (mC M_L_act) 87 = .ok (.iload 4, 2) := by decide +kernel
theorem dL_act_89 : decode (mC M_L_act) 89 = .ok (.iconst 1, 1) := by decide +kernel
theorem dL_act_90 : decode (mC M_L_act) 90 = .ok (.invokevirtual 29, 3) := by decide +kernel
theorem dL_act_93 : decode (mC M_L_act) 93 = .ok (.goto 401, 3) := by decide +kernel
theorem dL_act_96 : decode (mC M_L_act) 96 = .ok (.iload_n 1, 1) := by decide +kernel
theorem dL_act_97 : decode (mC M_L_act) 97 = .ok (.bipush 7, 2) := by decide +kernel
theorem dL_act_99 : decode (mC M_L_act) 99 = .ok (.if_icmp .ne 15, 3) := by decide +kernel
theorem dL_act_102 : decode (mC M_L_act) 102 = .ok (.aload_n 0, 1) := by decide +kernel
theorem dL_act_103 : decode (mC M_L_act) 103 = .ok (.iload_n 2, 1) := by decide +kernel
theorem dL_act_104 : decode (mC M_L_act) 104 = .ok (.iload_n 3, 1) := by decide +kernel
theorem dL_act_105 : decode (mC M_L_act) 105 = .ok (.iload 4, 2) := by decide +kernel
theorem dL_act_107 : decode (mC M_L_act) 107 = .ok (.iconst 0, 1) := by decide +kernel
theorem dL_act_108 : decode (mC M_L_act) 108 = .ok (.invokevirtual 29, 3) := by decide +kernel
theorem dL_act_111 : decode (mC M_L_act) 111 = .ok (.goto 383, 3) := by decide +kernel
theorem dL_act_114 : decode (mC M_L_act) 114 = .ok (.iload_n 1, 1) := by decide +kernel
theorem dL_act_115 : decode (mC M_L_act) 115 = .ok (.bipush 8, 2) := by decide +kernel
theorem dL_act_117 : decode (mC M_L_act) 117 = .ok (.if_icmp .ne 12, 3) := by decide +kernel
theorem dL_act_120 : decode (mC M_L_act) 120 = .ok (.aload_n 0, 1) := by decide +kernel
theorem dL_act_121 : decode (mC M_L_act) 121 = .ok (.iload_n 2, 1) := by decide +kernel
theorem dL_act_122 : decode (mC M_L_act) 122 = .ok (.iload_n 3, 1) := by decide +kernel
theorem dL_act_123 : decode (mC M_L_act) 123 = .ok (.invokevirtual 33, 3) := by decide +kernel
theorem dL_act_126 : decode (mC M_L_act) 126 = .ok (.goto 368, 3) := by decide +kernel
theorem dL_act_129 : decode (mC M_L_act) 129 = .ok (.iload_n 1, 1) := by decide +kernel
theorem dL_act_130 : decode (mC M_L_act) 130 = .ok (.bipush 9, 2) := by decide +kernel
theorem dL_act_132 : decode (mC M_L_act) 132 = .ok (.if_icmp .ne 14, 3) := by decide +kernel
theorem dL_act_135 : decode (mC M_L_act) 135 = .ok (.aload_n 0, 1) := by decide +kernel
theorem dL_act_136 : decode (mC M_L_act) 136 = .ok (.iload_n 2, 1) := by decide +kernel
theorem dL_act_137 : decode (mC M_L_act) 137 = .ok (.iload_n 3, 1) := by decide +kernel
theorem dL_act_138 : decode (mC M_L_act) 138 = .ok (.iload 4, 2) := by decide +kernel
theorem dL_act_140 : decode (mC M_L_act) 140 = .ok (.invokevirtual 36, 3) := by decide +kernel
theorem dL_act_143 : decode (mC M_L_act) 143 = .ok (.goto 351, 3) := by decide +kernel
theorem dL_act_146 : decode (mC M_L_act) 146 = .ok (.iload_n 1, 1) := by decide +kernel
theorem dL_act_147 : decode (mC M_L_act) 147 = .ok (.bipush 10, 2) := by decide +kernel
theorem dL_act_149 : decode (mC M_L_act) 149 = .ok (.if_icmp .ne 12, 3) := by decide +kernel
theorem dL_act_152 : decode (mC M_L_act) 152 = .ok (.aload_n 0, 1) := by decide +kernel
theorem dL_act_153 : decode (mC M_L_act) 153 = .ok (.iload_n 2, 1) := by decide +kernel
theorem dL_act_154 : decode (mC M_L_act) 154 = .ok (.iload_n 3, 1) := by decide +kernel
theorem dL_act_155 : decode (mC M_L_act) 155 = .ok (.invokevirtual 40, 3) := by decide +kernel
theorem dL_act_158 : decode (mC M_L_act) 158 = .ok (.goto 336, 3) := by decide +kernel
theorem dL_act_161 : decode (mC M_L_act) 161 = .ok (.iload_n 1, 1) := by decide +kernel
theorem dL_act_162 : decode (mC M_L_act) 162 = .ok (.bipush 11, 2) := by decide +kernel
theorem dL_act_164 : decode (mC M_L_act) 164 = .ok (.if_icmp .ne 11, 3) := by decide +kernel
theorem dL_act_167 : decode (mC M_L_act) 167 = .ok (.aload_n 0, 1) := by decide +kernel
theorem dL_act_168 : decode (mC M_L_act) 168 = .ok (.iload_n 2, 1) := by decide +kernel
theorem dL_act_169 : decode (mC M_L_act) 169 = .ok (.invokevirtual 43, 3) := by decide +kernel
theorem dL_act_172 : decode (mC M_L_act) 172 = .ok (.goto 322, 3) := by decide +kernel
theorem dL_act_175 : decode (mC M_L_act) 175 = .ok (.iload_n 1, 1) := by decide +kernel
theorem dL_act_176 : decode (mC M_L_act) 176 = .ok (.bipush 12, 2) := by decide +kernel
theorem dL_act_178 : decode (mC M_L_act) 178 = .ok (.if_icmp .ne 11, 3) := by decide +kernel
theorem dL_act_181 : decode (mC M_L_act) 181 = .ok (.aload_n 0, 1) := by decide +kernel
theorem dL_act_182 : decode (mC M_L_act) 182 = .ok (.iload_n 2, 1) := by decide +kernel
theorem dL_act_183 : decode (mC M_L_act) 183 = .ok (.invokevirtual 46, 3) := by decide +kernel
theorem dL_act_186 : decode (mC M_L_act) 186 = .ok (.goto 308, 3) := by decide +kernel
theorem dL_act_189 : decode (mC M_L_act) 189 = .ok (.iload_n 1, 1) := by decide +kernel
theorem dL_act_190 : decode (mC M_L_act) 190 = .ok (.bipush 13, 2) := by decide +kernel
theorem dL_act_192 : decode (mC M_L_act) 192 = .ok (.if_icmp .ne 19, 3) := by decide +kernel
theorem dL_act_195 : decode (mC M_L_act) 195 = .ok (.aload_n 0, 1) := by decide +kernel
theorem dL_act_196 : decode (mC M_L_act) 196 = .ok (.iload_n 2, 1) := by decide +kernel
theorem dL_act_197 : decode (mC M_L_act) 197 = .ok (.invokevirtual 49, 3) := by decide +kernel
theorem dL_act_200 : decode (mC M_L_act) 200 = .ok (.ifCond .eq 7, 3) := by decide +kernel
theorem dL_act_203 : decode (mC M_L_act) 203 = .ok (.iconst 1, 1) := by decide +kernel
theorem dL_act_204 : decode (mC M_L_act) 204 = .ok (.goto 290, 3) := by decide +kernel
theorem dL_act_207 : decode (mC M_L_act) 207 = .ok (.iconst 0, 1) := by decide +kernel
theorem dL_act_208 : decode (mC M_L_act) 208 = .ok (.goto 286, 3) := by decide +kernel
theorem dL_act_211 : decode (mC M_L_act) 211 = .ok (.iload_n 1, 1) := by decide +kernel
theorem dL_act_212 : decode (mC M_L_act) 212 = .ok (.bipush 14, 2) := by decide +kernel
theorem dL_act_214 : decode (mC M_L_act) 214 = .ok (.if_icmp .ne 11, 3) := by decide +kernel
theorem dL_act_217 : decode (mC M_L_act) 217 = .ok (.aload_n 0, 1) := by decide +kernel
theorem dL_act_218 : decode (mC M_L_act) 218 = .ok (.iload_n 2, 1) := by decide +kernel
theorem dL_act_219 : decode (mC M_L_act) 219 = .ok (.invokevirtual 53, 3) := by decide +kernel
theorem dL_act_222 : decode (mC M_L_act) 222 = .ok (.goto 272, 3) := by decide +kernel
theorem dL_act_225 : decode (mC M_L_act) 225 = .ok (.iload_n 1, 1) := by decide +kernel
theorem dL_act_226 : decode (mC M_L_act) 226 = .ok (.bipush 15, 2) := by decide +kernel
theorem dL_act_228 : decode (mC M_L_act) 228 = .ok (.if_icmp .ne 11, 3) := by decide +kernel
theorem dL_act_231 : decode (mC M_L_act) 231 = .ok (.aload_n 0, 1) := by decide +kernel
theorem dL_act_232 : decode (mC M_L_act) 232 = .ok (.iload_n 2, 1) := by decide +kernel
theorem dL_act_233 : decode (mC M_L_act) 233 = .ok (.invokevirtual 56, 3) := by decide +kernel
theorem dL_act_236 : decode (mC M_L_act) 236 = .ok (.goto 258, 3) := by decide +kernel
theorem dL_act_239 : decode (mC M_L_act) 239 = .ok (.iload_n 1, 1) := by decide +kernel
theorem dL_act_240 : decode (mC M_L_act) 240 = .ok (.bipush 16, 2) := by decide +kernel
theorem dL_act_242 : decode (mC M_L_act) 242 = .ok (.if_icmp .ne 11, 3) := by decide +kernel
theorem dL_act_245 : decode (mC M_L_act) 245 = .ok (.aload_n 0, 1) := by decide +kernel
theorem dL_act_246 : decode (mC M_L_act) 246 = .ok (.iload_n 2, 1) := by decide +kernel
theorem dL_act_247 : decode (mC M_L_act) 247 = .ok (.invokevirtual 59, 3) := by decide +kernel
theorem dL_act_250 : decode (mC M_L_act) 250 = .ok (.goto 244, 3) := by decide +kernel
theorem dL_act_253 : decode (mC M_L_act) 253 = .ok (.iload_n 1, 1) := by decide +kernel
theorem dL_act_254 : decode (mC M_L_act) 254 = .ok (.bipush 17, 2) := by decide +kernel
theorem dL_act_256 : decode (mC M_L_act) 256 = .ok (.if_icmp .ne 11, 3) := by decide +kernel
theorem dL_act_259 : decode (mC M_L_act) 259 = .ok (.aload_n 0, 1) := by decide +kernel
theorem dL_act_260 : decode (mC M_L_act) 260 = .ok (.iload_n 2, 1) := by decide +kernel
theorem dL_act_261 : decode (mC M_L_act) 261 = .ok (.invokevirtual 62, 3) := by decide +kernel
theorem dL_act_264 : decode (mC M_L_act) 264 = .ok (.goto 230, 3) := by decide +kernel
theorem dL_act_267 : decode (mC M_L_act) 267 = .ok (.iload_n 1, 1) := by decide +kernel
theorem dL_act_268 : decode (mC M_L_act) 268 = .ok (.bipush 18, 2) := by decide +kernel
theorem dL_act_270 : decode (mC M_L_act) 270 = .ok (.if_icmp .ne 11, 3) := by decide +kernel
theorem dL_act_273 : decode (mC M_L_act) 273 = .ok (.aload_n 0, 1) := by decide +kernel
theorem dL_act_274 : decode (mC M_L_act) 274 = .ok (.iload_n 2, 1) := by decide +kernel
theorem dL_act_275 : decode (mC M_L_act) 275 = .ok (.invokevirtual 65, 3) := by decide +kernel
theorem dL_act_278 : decode (mC M_L_act) 278 = .ok (.goto 216, 3) := by decide +kernel
theorem dL_act_281 : decode (mC M_L_act) 281 = .ok (.iload_n 1, 1) := by decide +kernel
theorem dL_act_282 : decode (mC M_L_act) 282 = .ok (.bipush 19, 2) := by decide +kernel
theorem dL_act_284 : decode (mC M_L_act) 284 = .ok (.if_icmp .ne 11, 3) := by decide +kernel
theorem dL_act_287 : decode (mC M_L_act) 287 = .ok (.aload_n 0, 1) := by decide +kernel
theorem dL_act_288 : decode (mC M_L_act) 288 = .ok (.iload_n 2, 1) := by decide +kernel
theorem dL_act_289 : decode (mC M_L_act) 289 = .ok (.invokevirtual 68, 3) := by decide +kernel
theorem dL_act_292 : decode (mC M_L_act) 292 = .ok (.goto 202, 3) := by decide +kernel
theorem dL_act_295 : decode (mC M_L_act) 295 = .ok (.iload_n 1, 1) := by decide +kernel
theorem dL_act_296 : decode (mC M_L_act) 296 = .ok (.bipush 20, 2) := by decide +kernel
theorem dL_act_298 : decode (mC M_L_act) 298 = .ok (.if_icmp .ne 11, 3) := by decide +kernel
theorem dL_act_301 : decode (mC M_L_act) 301 = .ok (.aload_n 0, 1) := by decide +kernel
theorem dL_act_302 : decode (mC M_L_act) 302 = .ok (.iload_n 2, 1) := by decide +kernel
theorem dL_act_303 : decode (mC M_L_act) 303 = .ok (.invokevirtual 71, 3) := by decide +kernel
theorem dL_act_306 : decode (mC M_L_act) 306 = .ok (.goto 188, 3) := by decide +kernel
theorem dL_act_309 : decode (mC M_L_act) 309 = .ok (.iload_n 1, 1) := by decide +kernel
theorem dL_act_310 : decode (mC M_L_act) 310 = .ok (.bipush 21, 2) := by decide +kernel
theorem dL_act_312 : decode (mC M_L_act) 312 = .ok (.if_icmp .ne 11, 3) := by decide +kernel
theorem dL_act_315 : decode (mC M_L_act) 315 = .ok (.aload_n 0, 1) := by decide +kernel
theorem dL_act_316 : decode (mC M_L_act) 316 = .ok (.iload_n 2, 1) := by decide +kernel
theorem dL_act_317 : decode (mC M_L_act) 317 = .ok (.invokevirtual 74, 3) := by decide +kernel
theorem dL_act_320 : decode (mC M_L_act) 320 = .ok (.goto 174, 3) := by decide +kernel
theorem dL_act_323 : decode (mC M_L_act) 323 = .ok (.iload_n 1, 1) := by decide +kernel
theorem dL_act_324 : decode (mC M_L_act) 324 = .ok (.bipush 22, 2) := by decide +kernel
theorem dL_act_326 : decode (mC M_L_act) 326 = .ok (.if_icmp .ne 11, 3) := by decide +kernel
theorem dL_act_329 : decode (mC M_L_act) 329 = .ok (.aload_n 0, 1) := by decide +kernel
theorem dL_act_330 : decode (mC M_L_act) 330 = .ok (.iload_n 2, 1) := by decide +kernel
theorem dL_act_331 : decode (mC M_L_act) 331 = .ok (.invokevirtual 77, 3) := by decide +kernel
theorem dL_act_334 : decode (mC M_L_act) 334 = .ok (.goto 160, 3) := by decide +kernel
theorem dL_act_337 : decode (mC M_L_act) 337 = .ok (.iload_n 1, 1) := by decide +kernel
theorem dL_act_338 : decode (mC M_L_act) 338 = .ok (.bipush 23, 2) := by decide +kernel
theorem dL_act_340 : decode (mC M_L_act) 340 = .ok (.if_icmp .ne 11, 3) := by decide +kernel
theorem dL_act_343 : decode (mC M_L_act) 343 = .ok (.aload_n 0, 1) := by decide +kernel
theorem dL_act_344 : decode (mC M_L_act) 344 = .ok (.iload_n 2, 1) := by decide +kernel
theorem dL_act_345 : decode (mC M_L_act) 345 = .ok (.invokevirtual 80, 3) := by decide +kernel
theorem dL_act_348 : decode (mC M_L_act) 348 = .ok (.goto 146, 3) := by decide +kernel
theorem dL_act_351 : decode (mC M_L_act) 351 = .ok (.iload_n 1, 1) := by decide +kernel
theorem dL_act_352 : decode (mC M_L_act) 352 = .ok (.bipush 24, 2) := by decide +kernel
theorem dL_act_354 : decode (mC M_L_act) 354 = .ok (.if_icmp .ne 19, 3) := by decide +kernel
theorem dL_act_357 : decode (mC M_L_act) 357 = .ok (.aload_n 0, 1) := by decide +kernel
theorem dL_act_358 : decode (mC M_L_act) 358 = .ok (.iload_n 2, 1) := by decide +kernel
theorem dL_act_359 : decode (mC M_L_act) 359 = .ok (.invokevirtual 83, 3) := by decide +kernel
theorem dL_act_362 : decode (mC M_L_act) 362 = .ok (.ifCond .eq 7, 3) := by decide +kernel
theorem dL_act_365 : decode (mC M_L_act) 365 = .ok (.iconst 1, 1) := by decide +kernel
theorem dL_act_366 : decode (mC M_L_act) 366 = .ok (.goto 128, 3) := by decide +kernel
theorem dL_act_369 : decode (mC M_L_act) 369 = .ok (.iconst 0, 1) := by decide +kernel
theorem dL_act_370 : decode (mC M_L_act) 370 = .ok (.goto 124, 3) := by decide +kernel
theorem dL_act_373 : decode (mC M_L_act) 373 = .ok (.iload_n 1, 1) := by decide +kernel
theorem dL_act_374 : decode (mC M_L_act) 374 = .ok (.bipush 25, 2) := by decide +kernel
theorem dL_act_376 : decode (mC M_L_act) 376 = .ok (.if_icmp .ne 11, 3) := by decide +kernel
theorem dL_act_379 : decode (mC M_L_act) 379 = .ok (.aload_n 0, 1) := by decide +kernel
theorem dL_act_380 : decode (mC M_L_act) 380 = .ok (.iload_n 2, 1) := by decide +kernel
theorem dL_act_381 : decode (mC M_L_act) 381 = .ok (.invokevirtual 86, 3) := by decide +kernel
theorem dL_act_384 : decode (mC M_L_act) 384 = .ok (.goto 110, 3) := by decide +kernel
theorem dL_act_387 : decode (mC M_L_act) 387 = .ok (.iload_n 1, 1) := by decide +kernel
theorem dL_act_388 : decode (mC M_L_act) 388 = .ok (.bipush 26, 2) := by decide +kernel
theorem dL_act_390 : decode (mC M_L_act) 390 = .ok (.if_icmp .ne 21, 3) := by decide +kernel
theorem dL_act_393 : decode (mC M_L_act) 393 = .ok (.aload_n 0, 1) := by decide +kernel
theorem dL_act_394 : decode (mC M_L_act) 394 = .ok (.iload_n 2, 1) := by decide +kernel
theorem dL_act_395 : decode (mC M_L_act) 395 = .ok (.iload_n 3, 1) := by decide +kernel
theorem dL_act_396 : decode (mC M_L_act) 396 = .ok (.iconst 1, 1) := by decide +kernel
theorem dL_act_397 : decode (mC M_L_act) 397 = .ok (.if_icmp .ne 7, 3) := by decide +kernel
theorem dL_act_400 : decode (mC M_L_act) 400 = .ok (.iconst 1, 1) := by decide +kernel
theorem dL_act_401 : decode (mC M_L_act) 401 = .ok (.goto 4, 3) := by decide +kernel
theorem dL_act_404 : decode (mC M_L_act) 404 = .ok (.iconst 0, 1) := by decide +kernel
theorem dL_act_405 : decode (mC M_L_act) 405 = .ok (.invokevirtual 89, 3) := by decide +kernel
theorem dL_act_408 : decode (mC M_L_act) 408 = .ok (.goto 86, 3) := by decide +kernel
theorem dL_act_411 : decode (mC M_L_act) 411 = .ok (.iload_n 1, 1) := by decide +kernel
theorem dL_act_412 : decode (mC M_L_act) 412 = .ok (.bipush 27, 2) := by decide +kernel
theorem dL_act_414 : decode (mC M_L_act) 414 = .ok (.if_icmp .ne 11, 3) := by decide +kernel
theorem dL_act_417 : decode (mC M_L_act) 417 = .ok (.aload_n 0, 1) := by decide +kernel
theorem dL_act_418 : decode (mC M_L_act) 418 = .ok (.iload_n 2, 1) := by decide +kernel
theorem dL_act_419 : decode (mC M_L_act) 419 = .ok (.invokevirtual 93, 3) := by decide +kernel
theorem dL_act_422 : decode (mC M_L_act) 422 = .ok (.goto 72, 3) := by decide +kernel
theorem dL_act_425 : decode (mC M_L_act) 425 = .ok (.iload_n 1, 1) := by decide +kernel
theorem dL_act_426 : decode (mC M_L_act) 426 = .ok (.bipush 28, 2) := by decide +kernel
theorem dL_act_428 : decode (mC M_L_act) 428 = .ok (.if_icmp .ne 12, 3) := by decide +kernel
theorem dL_act_431 : decode (mC M_L_act) 431 = .ok (.aload_n 0, 1) := by decide +kernel
theorem dL_act_432 : decode (mC M_L_act) 432 = .ok (.iload_n 2, 1) := by decide +kernel
theorem dL_act_433 : decode (mC M_L_act) 433 = .ok (.iload_n 3, 1) := by decide +kernel
theorem dL_act_434 : decode (mC M_L_act) 434 = .ok (.invokevirtual 96, 3) := by decide +kernel
theorem dL_act_437 : decode (mC M_L_act) 437 = .ok (.goto 57, 3) := by decide +kernel
theorem dL_act_440 : decode (mC M_L_act) 440 = .ok (.iload_n 1, 1) := by decide +kernel
theorem dL_act_441 : decode (mC M_L_act) 441 = .ok (.bipush 29, 2) := by decide +kernel
theorem dL_act_443 : decode (mC M_L_act) 443 = .ok (.if_icmp .ne 14, 3) := by decide +kernel
theorem dL_act_446 : decode (mC M_L_act) 446 = .ok (.aload_n 0, 1) := by decide +kernel
theorem dL_act_447 : decode (mC M_L_act) 447 = .ok (.iload_n 2, 1) := by decide +kernel
theorem dL_act_448 : decode (mC M_L_act) 448 = .ok (.iload_n 3, 1) := by decide +kernel
theorem dL_act_449 : decode (mC M_L_act) 449 = .ok (.iload 4, 2) := by decide +kernel
theorem dL_act_451 : decode (mC M_L_act) 451 = .ok (.invokevirtual 99, 3) := by decide +kernel
theorem dL_act_454 : decode (mC M_L_act) 454 = .ok (.goto 40, 3) := by decide +kernel
theorem dL_act_457 : decode (mC M_L_act) 457 = .ok (.iload_n 1, 1) := by decide +kernel
theorem dL_act_458 : decode (mC M_L_act) 458 = .ok (.bipush 30, 2) := by decide +kernel
theorem dL_act_460 : decode (mC M_L_act) 460 = .ok (.if_icmp .ne 14, 3) := by decide +kernel
theorem dL_act_463 : decode (mC M_L_act) 463 = .ok (.aload_n 0, 1) := by decide +kernel
theorem dL_act_464 : decode (mC M_L_act) 464 = .ok (.iload_n 2, 1) := by decide +kernel
theorem dL_act_465 : decode (mC M_L_act) 465 = .ok (.iload_n 3, 1) := by decide +kernel
theorem dL_act_466 : decode (mC M_L_act) 466 = .ok (.iload 4, 2) := by decide +kernel
theorem dL_act_468 : decode (mC M_L_act) 468 = .ok (.invokevirtual 102, 3) := by decide +kernel
theorem dL_act_471 : decode (mC M_L_act) 471 = .ok (.goto 23, 3) := by decide +kernel
theorem dL_act_474 : decode (mC M_L_act) 474 = .ok (.iload_n 1, 1) := by decide +kernel
theorem dL_act_475 : decode (mC M_L_act) 475 = .ok (.bipush 31, 2) := by decide +kernel
theorem dL_act_477 : decode (mC M_L_act) 477 = .ok (.if_icmp .ne 11, 3) := by decide +kernel
theorem dL_act_480 : decode (mC M_L_act) 480 = .ok (.aload_n 0, 1) := by decide +kernel
theorem dL_act_481 : decode (mC M_L_act) 481 = .ok (.iload_n 2, 1) := by decide +kernel
theorem dL_act_482 : decode (mC M_L_act) 482 = .ok (.invokevirtual 105, 3) := by decide +kernel
theorem dL_act_485 : decode (mC M_L_act) 485 = .ok (.goto 9, 3) := by decide +kernel
theorem dL_act_488 : decode (mC M_L_act) 488 = .ok (.aload_n 0, 1) := by decide +kernel
theorem dL_act_489 : decode (mC M_L_act) 489 = .ok (.iload_n 2, 1) := by decide +kernel
theorem dL_act_490 : decode (mC M_L_act) 490 = .ok (.iload_n 3, 1) := by decide +kernel
theorem dL_act_491 : decode (mC M_L_act) 491 = .ok (.invokevirtual 108, 3) := by decide +kernel
theorem dL_act_494 : decode (mC M_L_act) 494 = .ok (.ireturn, 1) := by decide +kernel
theorem dL_act_495 : decode (mC M_L_act) 495 = .ok (.astore 5, 2) := by decide +kernel
theorem dL_act_497 : decode (mC M_L_act) 497 = .ok (.bipush (-71), 2) := by decide +kernel
theorem dL_act_499 : decode (mC M_L_act) 499 = .ok (.ireturn, 1) := by decide +kernel
theorem dL_act_500 : decode (mC M_L_act) 500 = .ok (.astore 5, 2) := by decide +kernel
theorem dL_act_502 : decode (mC M_L_act) 502 = .ok (.bipush (-72), 2) := by decide +kernel
theorem dL_act_504 : decode (mC M_L_act) 504 = .ok (.ireturn, 1) := by decide +kernel
theorem dL_act_505 : decode (mC M_L_act) 505 = .ok (.astore 5, 2) := by decide +kernel
theorem dL_act_507 : decode (mC M_L_act) 507 = .ok (.bipush (-73), 2) := by decide +kernel
theorem dL_act_509 : decode (mC M_L_act) 509 = .ok (.ireturn, 1) := by decide +kernel
theorem dL_refuses_0 : decode (mC M_L_refuses) 0 = .ok (.aload_n 0, 1) := by decide +kernel
theorem dL_refuses_1 : decode (mC M_L_refuses) 1 = .ok (.invokevirtual 117, 3) := by decide +kernel
theorem dL_refuses_4 : decode (mC M_L_refuses) 4 = .ok (.istore_n 2, 1) := by decide +kernel
theorem dL_refuses_5 : decode (mC M_L_refuses) 5 = .ok (.aload_n 0, 1) := by decide +kernel
theorem dL_refuses_6 : decode (mC M_L_refuses) 6 = .ok (.iconst 2, 1) := by decide +kernel
theorem dL_refuses_7 : decode (mC M_L_refuses) 7 = .ok (.invokevirtual 62, 3) := by decide +kernel
theorem dL_refuses_10 : decode (mC M_L_refuses) 10 = .ok (.istore_n 3, 1) := by decide +kernel
theorem dL_refuses_11 : decode (mC M_L_refuses) 11 = .ok (.aload_n 0, 1) := by decide +kernel
theorem dL_refuses_12 : decode (mC M_L_refuses) 12 = .ok (.iconst 0, 1) := by decide +kernel
theorem dL_refuses_13 : decode (mC M_L_refuses) 13 = .ok (.invokevirtual 56, 3) := by decide +kernel
theorem dL_refuses_16 : decode (mC M_L_refuses) 16 = .ok (.istore 4, 2) := by decide +kernel
theorem dL_refuses_18 : decode (mC M_L_refuses) 18 = .ok (.ldc 121, 2) := by decide +kernel
theorem dL_refuses_20 : decode (mC M_L_refuses) 20 = .ok (.istore 5, 2) := by decide +kernel
theorem dL_refuses_22 : decode (mC M_L_refuses) 22 = .ok (.iconst 0, 1) := by decide +kernel
theorem dL_refuses_23 : decode (mC M_L_refuses) 23 = .ok (.istore 6, 2) := by decide +kernel
theorem dL_refuses_25 : decode (mC M_L_refuses) 25 = .ok (.iload 6, 2) := by decide +kernel
theorem dL_refuses_27 : decode (mC M_L_refuses) 27 = .ok (.iconst 4, 1) := by decide +kernel
theorem dL_refuses_28 : decode (mC M_L_refuses) 28 = .ok (.if_icmp .ge 747, 3) := by decide +kernel
theorem dL_refuses_31 : decode (mC M_L_refuses) 31 = .ok (.iload 6, 2) := by decide +kernel
theorem dL_refuses_33 : decode (mC M_L_refuses) 33 = .ok (.ifCond .ne 7, 3) := by decide +kernel
theorem dL_refuses_36 : decode (mC M_L_refuses) 36 = .ok (.iconst (-1), 1) := by decide +kernel
theorem dL_refuses_37 : decode (mC M_L_refuses) 37 = .ok (.goto 19, 3) := by decide +kernel
theorem dL_refuses_40 : decode (mC M_L_refuses) 40 = .ok (.iload 6, 2) := by decide +kernel
theorem dL_refuses_42 : decode (mC M_L_refuses) 42 = .ok (.iconst 2, 1) := by decide +kernel
theorem dL_refuses_43 : decode (mC M_L_refuses) 43 = .ok (.if_icmp .ne 8, 3) := by decide +kernel
theorem dL_refuses_46 : decode (mC M_L_refuses) 46 = .ok (.iload 5, 2) := by decide +kernel
theorem dL_refuses_48 : decode (mC M_L_refuses) 48 = .ok (.goto 8, 3) := by decide +kernel
theorem dL_refuses_51 : decode (mC M_L_refuses) 51 = .ok (.iload 5, 2) := by decide +kernel
theorem dL_refuses_53 : decode (mC M_L_refuses) 53 = .ok (.ineg, 1) := by decide +kernel
theorem dL_refuses_54 : decode (mC M_L_refuses) 54 = .ok (.iconst 1, 1) := by decide +kernel
theorem dL_refuses_55 : decode (mC M_L_refuses) 55 = .ok (.isub, 1) := by decide +kernel
theorem dL_refuses_56 : decode (mC M_L_refuses) 56 = .ok (.istore 7, 2) := by decide +kernel
theorem dL_refuses_58 : decode (mC M_L_refuses) 58 = .ok (.iload 6, 2) := by decide +kernel
theorem dL_refuses_60 : decode (mC M_L_refuses) 60 = .ok (.iconst 1, 1) := by decide +kernel
theorem dL_refuses_61 : decode (mC M_L_refuses) 61 = .ok (.if_icmp .ne 7, 3) := by decide +kernel
theorem dL_refuses_64 : decode (mC M_L_refuses) 64 = .ok (.iconst 4, 1) := by decide +kernel
theorem dL_refuses_65 : decode (mC M_L_refuses) 65 = .ok (.goto 5, 3) := by decide +kernel
theorem dL_refuses_68 : decode (mC M_L_refuses) 68 = .ok (.iload 7, 2) := by decide +kernel
theorem dL_refuses_70 : decode (mC M_L_refuses) 70 = .ok (.istore 8, 2) := by decide +kernel
theorem dL_refuses_72 : decode (mC M_L_refuses) 72 = .ok (.iload 6, 2) := by decide +kernel
theorem dL_refuses_74 : decode (mC M_L_refuses) 74 = .ok (.iconst 1, 1) := by decide +kernel
theorem dL_refuses_75 : decode (mC M_L_refuses) 75 = .ok (.if_icmp .ne 8, 3) := by decide +kernel
theorem dL_refuses_78 : decode (mC M_L_refuses) 78 = .ok (.bipush 6, 2) := by decide +kernel
theorem dL_refuses_80 : decode (mC M_L_refuses) 80 = .ok (.goto 5, 3) := by decide +kernel
theorem dL_refuses_83 : decode (mC M_L_refuses) 83 = .ok (.iload 7, 2) := by decide +kernel
theorem dL_refuses_85 : decode (mC M_L_refuses) 85 = .ok (.istore 9, 2) := by decide +kernel
theorem dL_refuses_87 : decode (mC M_L_refuses) 87 = .ok (.iload 6, 2) := by decide +kernel
theorem dL_refuses_89 : decode (mC M_L_refuses) 89 = .ok (.iconst 1, 1) := by decide +kernel
theorem dL_refuses_90 : decode (mC M_L_refuses) 90 = .ok (.if_icmp .ne 8, 3) := by decide +kernel
theorem dL_refuses_93 : decode (mC M_L_refuses) 93 = .ok (.bipush 8, 2) := by decide +kernel
theorem dL_refuses_95 : decode (mC M_L_refuses) 95 = .ok (.goto 5, 3) := by decide +kernel
theorem dL_refuses_98 : decode (mC M_L_refuses) 98 = .ok (.iload 7, 2) := by decide +kernel
theorem dL_refuses_100 : decode (mC M_L_refuses) 100 = .ok (.istore 10, 2) := by decide +kernel
theorem dL_refuses_102 : decode (mC M_L_refuses) 102 = .ok (.iload 6, 2) := by decide +kernel
theorem dL_refuses_104 : decode (mC M_L_refuses) 104 = .ok (.iconst 1, 1) := by decide +kernel
theorem dL_refuses_105 : decode (mC M_L_refuses) 105 = .ok (.if_icmp .ne 7, 3) := by decide +kernel
theorem dL_refuses_108 : decode (mC M_L_refuses) 108 = .ok (.iload_n 1, 1) := by decide +kernel
theorem dL_refuses_109 : decode (mC M_L_refuses) 109 = .ok (.goto 5, 3) := by decide +kernel
theorem dL_refuses_112 : decode (mC M_L_refuses) 112 = .ok (.iload 7, 2) := by decide +kernel
theorem dL_refuses_114 : decode (mC M_L_refuses) 114 = .ok (.istore 11, 2) := by decide +kernel
theorem dL_refuses_116 : decode (mC M_L_refuses) 116 = .ok (.iload 6, 2) := by decide +kernel
theorem dL_refuses_118 : decode (mC M_L_refuses) 118 = .ok (.ifCond .ne 7, 3) := by decide +kernel
theorem dL_refuses_121 : decode (mC M_L_refuses) 121 = .ok (.iconst 0, 1) := by decide +kernel
theorem dL_refuses_122 : decode (mC M_L_refuses) 122 = .ok (.goto 16, 3) := by decide +kernel
theorem dL_refuses_125 : decode (mC M_L_refuses) 125 = .ok (.iload 6, 2) := by decide +kernel
theorem dL_refuses_127 : decode (mC M_L_refuses) 127 = .ok (.iconst 1, 1) := by decide +kernel
theorem dL_refuses_128 : decode (mC M_L_refuses) 128 = .ok (.if_icmp .ne 8, 3) := by decide +kernel
theorem dL_refuses_131 : decode (mC M_L_refuses) 131 = .ok (.bipush 41, 2) := by decide +kernel
theorem dL_refuses_133 : decode (mC M_L_refuses) 133 = .ok (.goto 5, 3) := by decide +kernel
theorem dL_refuses_136 : decode (mC M_L_refuses) 136 = .ok (.iload 7, 2) := by decide +kernel
theorem dL_refuses_138 : decode (mC M_L_refuses) 138 = .ok (.istore 12, 2) := by decide +kernel
theorem dL_refuses_140 : decode (mC M_L_refuses) 140 = .ok (.aload_n 0, 1) := by decide +kernel
theorem dL_refuses_141 : decode (mC M_L_refuses) 141 = .ok (.iconst 0, 1) := by decide +kernel
theorem dL_refuses_142 : decode (mC M_L_refuses) 142 = .ok (.iload 6, 2) := by decide +kernel
theorem dL_refuses_144 : decode (mC M_L_refuses) 144 = .ok (.iconst 1, 1) := by decide +kernel
theorem dL_refuses_145 : decode (mC M_L_refuses) 145 = .ok (.if_icmp .ne 8, 3) := by decide +kernel
theorem dL_refuses_148 : decode (mC M_L_refuses) 148 = .ok (.bipush 51, 2) := by decide +kernel
theorem dL_refuses_150 : decode (mC M_L_refuses) 150 = .ok (.goto 5, 3) := by decide +kernel
theorem dL_refuses_153 : decode (mC M_L_refuses) 153 = .ok (.iload 7, 2) := by decide +kernel
theorem dL_refuses_155 : decode (mC M_L_refuses) 155 = .ok (.iconst 0, 1) := by decide +kernel
theorem dL_refuses_156 : decode (mC M_L_refuses) 156 = .ok (.iconst 0, 1) := by decide +kernel
theorem dL_refuses_157 : decode (mC M_L_refuses) 157 = .ok (.invokestatic 122, 3) := by decide +kernel
theorem dL_refuses_160 : decode (mC M_L_refuses) 160 = .ok (.bipush (-72), 2) := by decide +kernel
theorem dL_refuses_162 : decode (mC M_L_refuses) 162 = .ok (.if_icmp .ne 362, 3) := by decide +kernel
theorem dL_refuses_165 : decode (mC M_L_refuses) 165 = .ok (.aload_n 0, 1) := by decide +kernel
theorem dL_refuses_166 : decode (mC M_L_refuses) 166 = .ok (.iconst 1, 1) := by decide +kernel
theorem dL_refuses_167 : decode (mC M_L_refuses) 167 = .ok (.iload 8, 2) := by decide +kernel
theorem dL_refuses_169 : decode (mC M_L_refuses) 169 = .ok (.iconst 0, 1) := by decide +kernel
theorem dL_refuses_170 : decode (mC M_L_refuses) 170 = .ok (.iconst 0, 1) := by decide +kernel
theorem dL_refuses_171 : decode (mC M_L_refuses) 171 = .ok (.invokestatic 122, 3) := by decide +kernel
theorem dL_refuses_174 : decode (mC M_L_refuses) 174 = .ok (.bipush (-71), 2) := by decide +kernel
theorem dL_refuses_176 : decode (mC M_L_refuses) 176 = .ok (.if_icmp .ne 348, 3) := by decide +kernel
theorem dL_refuses_179 : decode (mC M_L_refuses) 179 = .ok (.aload_n 0, 1) := by decide +kernel
theorem dL_refuses_180 : decode (mC M_L_refuses) 180 = .ok (.iconst 1, 1) := by decide +kernel
theorem dL_refuses_181 : decode (mC M_L_refuses) 181 = .ok (.iconst 0, 1) := by decide +kernel
theorem dL_refuses_182 : decode (mC M_L_refuses) 182 = .ok (.iload 10, 2) := by decide +kernel
theorem dL_refuses_184 : decode (mC M_L_refuses) 184 = .ok (.iconst 0, 1) := by decide +kernel
theorem dL_refuses_185 : decode (mC M_L_refuses) 185 = .ok (.invokestatic 122, 3) := by decide +kernel
theorem dL_refuses_188 : decode (mC M_L_refuses) 188 = .ok (.bipush (-71), 2) := by decide +kernel
theorem dL_refuses_190 : decode (mC M_L_refuses) 190 = .ok (.if_icmp .ne 334, 3) := by decide +kernel
theorem dL_refuses_193 : decode (mC M_L_refuses) 193 = .ok (.aload_n 0, 1) := by decide +kernel
theorem dL_refuses_194 : decode (mC M_L_refuses) 194 = .ok (.iconst 5, 1) := by decide +kernel
theorem dL_refuses_195 : decode (mC M_L_refuses) 195 = .ok (.iload 6, 2) := by decide +kernel
theorem dL_refuses_197 : decode (mC M_L_refuses) 197 = .ok (.ifCond .ne 7, 3) := by decide +kernel
theorem dL_refuses_200 : decode (mC M_L_refuses) 200 = .ok (.iconst 0, 1) := by decide +kernel
theorem dL_refuses_201 : decode (mC M_L_refuses) 201 = .ok (.goto 17, 3) := by decide +kernel
theorem dL_refuses_204 : decode (mC M_L_refuses) 204 = .ok (.iload 6, 2) := by decide +kernel
theorem dL_refuses_206 : decode (mC M_L_refuses) 206 = .ok (.iconst 1, 1) := by decide +kernel
theorem dL_refuses_207 : decode (mC M_L_refuses) 207 = .ok (.if_icmp .ne 9, 3) := by decide +kernel
theorem dL_refuses_210 : decode (mC M_L_refuses) 210 = .ok (.sipush 201, 3) := by decide +kernel
theorem dL_refuses_213 : decode (mC M_L_refuses) 213 = .ok (.goto 5, 3) := by decide +kernel
theorem dL_refuses_216 : decode (mC M_L_refuses) 216 = .ok (.iload 7, 2) := by decide +kernel
theorem dL_refuses_218 : decode (mC M_L_refuses) 218 = .ok (.iconst 0, 1) := by decide +kernel
theorem dL_refuses_219 : decode (mC M_L_refuses) 219 = .ok (.iconst 0, 1) := by decide +kernel
theorem dL_refuses_220 : decode (mC M_L_refuses) 220 = .ok (.invokestatic 122, 3) := by decide +kernel
theorem dL_refuses_223 : decode (mC M_L_refuses) 223 = .ok (.bipush (-72), 2) := by decide +kernel
theorem dL_refuses_225 : decode (mC M_L_refuses) 225 = .ok (.if_icmp .ne 299, 3) := by decide +kernel
theorem dL_refuses_228 : decode (mC M_L_refuses) 228 = .ok (.aload_n 0, 1) := by decide +kernel
theorem dL_refuses_229 : decode (mC M_L_refuses) 229 = .ok (.bipush 6, 2) := by decide +kernel
theorem dL_refuses_231 : decode (mC M_L_refuses) 231 = .ok (.iload 8, 2) := by decide +kernel
theorem dL_refuses_233 : decode (mC M_L_refuses) 233 = .ok (.iconst 0, 1) := by decide +kernel
theorem dL_refuses_234 : decode (mC M_L_refuses) 234 = .ok (.iconst 0, 1) := by decide +kernel
theorem dL_refuses_235 : decode (mC M_L_refuses) 235 = .ok (.invokestatic 122, 3) := by decide +kernel
theorem dL_refuses_238 : decode (mC M_L_refuses) 238 = .ok (.bipush (-71), 2) := by decide +kernel
theorem dL_refuses_240 : decode (mC M_L_refuses) 240 = .ok (.if_icmp .ne 284, 3) := by decide +kernel
theorem dL_refuses_243 : decode (mC M_L_refuses) 243 = .ok (.aload_n 0, 1) := by decide +kernel
theorem dL_refuses_244 : decode (mC M_L_refuses) 244 = .ok (.bipush 7, 2) := by decide +kernel
theorem dL_refuses_246 : decode (mC M_L_refuses) 246 = .ok (.iconst 0, 1) := by decide +kernel
theorem dL_refuses_247 : decode (mC M_L_refuses) 247 = .ok (.iload 10, 2) := by decide +kernel
theorem dL_refuses_249 : decode (mC M_L_refuses) 249 = .ok (.iload 10, 2) := by decide +kernel
theorem dL_refuses_251 : decode (mC M_L_refuses) 251 = .ok (.invokestatic 122, 3) := by decide +kernel
theorem dL_refuses_254 : decode (mC M_L_refuses) 254 = .ok (.bipush (-71), 2) := by decide +kernel
theorem dL_refuses_256 : decode (mC M_L_refuses) 256 = .ok (.if_icmp .ne 268, 3) := by decide +kernel
theorem dL_refuses_259 : decode (mC M_L_refuses) 259 = .ok (.aload_n 0, 1) := by decide +kernel
theorem dL_refuses_260 : decode (mC M_L_refuses) 260 = .ok (.bipush 6, 2) := by decide +kernel
theorem dL_refuses_262 : decode (mC M_L_refuses) 262 = .ok (.iconst 0, 1) := by decide +kernel
theorem dL_refuses_263 : decode (mC M_L_refuses) 263 = .ok (.iconst 1, 1) := by decide +kernel
theorem dL_refuses_264 : decode (mC M_L_refuses) 264 = .ok (.iload 10, 2) := by decide +kernel
theorem dL_refuses_266 : decode (mC M_L_refuses) 266 = .ok (.invokestatic 122, 3) := by decide +kernel
theorem dL_refuses_269 : decode (mC M_L_refuses) 269 = .ok (.bipush (-71), 2) := by decide +kernel
theorem dL_refuses_271 : decode (mC M_L_refuses) 271 = .ok (.if_icmp .ne 253, 3) := by decide +kernel
theorem dL_refuses_274 : decode (mC M_L_refuses) 274 = .ok (.aload_n 0, 1) := by decide +kernel
theorem dL_refuses_275 : decode (mC M_L_refuses) 275 = .ok (.bipush 6, 2) := by decide +kernel
theorem dL_refuses_277 : decode (mC M_L_refuses) 277 = .ok (.iload 6, 2) := by decide +kernel
theorem dL_refuses_279 : decode (mC M_L_refuses) 279 = .ok (.iload 6, 2) := by decide +kernel
theorem dL_refuses_281 : decode (mC M_L_refuses) 281 = .ok (.iload 6, 2) := by decide +kernel
theorem dL_refuses_283 : decode (mC M_L_refuses) 283 = .ok (.invokestatic 122, 3) := by decide +kernel
theorem dL_refuses_286 : decode (mC M_L_refuses) 286 = .ok (.bipush (-72), 2) := by decide +kernel
theorem dL_refuses_288 : decode (mC M_L_refuses) 288 = .ok (.if_icmp .ne 236, 3) := by decide +kernel
theorem dL_refuses_291 : decode (mC M_L_refuses) 291 = .ok (.aload_n 0, 1) := by decide +kernel
theorem dL_refuses_292 : decode (mC M_L_refuses) 292 = .ok (.bipush 7, 2) := by decide +kernel
theorem dL_refuses_294 : decode (mC M_L_refuses) 294 = .ok (.iconst 0, 1) := by decide +kernel
theorem dL_refuses_295 : decode (mC M_L_refuses) 295 = .ok (.iload 6, 2) := by decide +kernel
theorem dL_refuses_297 : decode (mC M_L_refuses) 297 = .ok (.iload 6, 2) := by decide +kernel
theorem dL_refuses_299 : decode (mC M_L_refuses) 299 = .ok (.invokestatic 122, 3) := by decide +kernel
theorem dL_refuses_302 : decode (mC M_L_refuses) 302 = .ok (.bipush (-72), 2) := by decide +kernel
theorem dL_refuses_304 : decode (mC M_L_refuses) 304 = .ok (.if_icmp .ne 220, 3) := by decide +kernel
theorem dL_refuses_307 : decode (mC M_L_refuses) 307 = .ok (.aload_n 0, 1) := by decide +kernel
theorem dL_refuses_308 : decode (mC M_L_refuses) 308 = .ok (.bipush 8, 2) := by decide +kernel
theorem dL_refuses_310 : decode (mC M_L_refuses) 310 = .ok (.iload 11, 2) := by decide +kernel
theorem dL_refuses_312 : decode (mC M_L_refuses) 312 = .ok (.iconst 0, 1) := by decide +kernel
theorem dL_refuses_313 : decode (mC M_L_refuses) 313 = .ok (.iconst 0, 1) := by decide +kernel
theorem dL_refuses_314 : decode (mC M_L_refuses) 314 = .ok (.invokestatic 122, 3) := by decide +kernel
theorem dL_refuses_317 : decode (mC M_L_refuses) 317 = .ok (.bipush (-71), 2) := by decide +kernel
theorem dL_refuses_319 : decode (mC M_L_refuses) 319 = .ok (.if_icmp .ne 205, 3) := by decide +kernel
theorem dL_refuses_322 : decode (mC M_L_refuses) 322 = .ok (.aload_n 0, 1) := by decide +kernel
theorem dL_refuses_323 : decode (mC M_L_refuses) 323 = .ok (.bipush 8, 2) := by decide +kernel
theorem dL_refuses_325 : decode (mC M_L_refuses) 325 = .ok (.iconst 0, 1) := by decide +kernel
theorem dL_refuses_326 : decode (mC M_L_refuses) 326 = .ok (.iload 8, 2) := by decide +kernel
theorem dL_refuses_328 : decode (mC M_L_refuses) 328 = .ok (.iconst 0, 1) := by decide +kernel
theorem dL_refuses_329 : decode (mC M_L_refuses) 329 = .ok (.invokestatic 122, 3) := by decide +kernel
theorem dL_refuses_332 : decode (mC M_L_refuses) 332 = .ok (.bipush (-71), 2) := by decide +kernel
theorem dL_refuses_334 : decode (mC M_L_refuses) 334 = .ok (.if_icmp .ne 190, 3) := by decide +kernel
theorem dL_refuses_337 : decode (mC M_L_refuses) 337 = .ok (.aload_n 0, 1) := by decide +kernel
theorem dL_refuses_338 : decode (mC M_L_refuses) 338 = .ok (.bipush 9, 2) := by decide +kernel
theorem dL_refuses_340 : decode (mC M_L_refuses) 340 = .ok (.iload 11, 2) := by decide +kernel
theorem dL_refuses_342 : decode (mC M_L_refuses) 342 = .ok (.bipush 9, 2) := by decide +kernel
theorem dL_refuses_344 : decode (mC M_L_refuses) 344 = .ok (.iconst 0, 1) := by decide +kernel
theorem dL_refuses_345 : decode (mC M_L_refuses) 345 = .ok (.invokestatic 122, 3) := by decide +kernel
theorem dL_refuses_348 : decode (mC M_L_refuses) 348 = .ok (.bipush (-71), 2) := by decide +kernel
theorem dL_refuses_350 : decode (mC M_L_refuses) 350 = .ok (.if_icmp .ne 174, 3) := by decide +kernel
theorem dL_refuses_353 : decode (mC M_L_refuses) 353 = .ok (.aload_n 0, 1) := by decide +kernel
theorem dL_refuses_354 : decode (mC M_L_refuses) 354 = .ok (.bipush 10, 2) := by decide +kernel
theorem dL_refuses_356 : decode (mC M_L_refuses) 356 = .ok (.iload 9, 2) := by decide +kernel
theorem dL_refuses_358 : decode (mC M_L_refuses) 358 = .ok (.iconst 0, 1) := by decide +kernel
theorem dL_refuses_359 : decode (mC M_L_refuses) 359 = .ok (.iconst 0, 1) := by decide +kernel
theorem dL_refuses_360 : decode (mC M_L_refuses) 360 = .ok (.invokestatic 122, 3) := by decide +kernel
theorem dL_refuses_363 : decode (mC M_L_refuses) 363 = .ok (.bipush (-71), 2) := by decide +kernel
theorem dL_refuses_365 : decode (mC M_L_refuses) 365 = .ok (.if_icmp .ne 159, 3) := by decide +kernel
theorem dL_refuses_368 : decode (mC M_L_refuses) 368 = .ok (.aload_n 0, 1) := by decide +kernel
theorem dL_refuses_369 : decode (mC M_L_refuses) 369 = .ok (.bipush 10, 2) := by decide +kernel
theorem dL_refuses_371 : decode (mC M_L_refuses) 371 = .ok (.iconst 0, 1) := by decide +kernel
theorem dL_refuses_372 : decode (mC M_L_refuses) 372 = .ok (.iload 10, 2) := by decide +kernel
theorem dL_refuses_374 : decode (mC M_L_refuses) 374 = .ok (.iconst 0, 1) := by decide +kernel
theorem dL_refuses_375 : decode (mC M_L_refuses) 375 = .ok (.invokestatic 122, 3) := by decide +kernel
theorem dL_refuses_378 : decode (mC M_L_refuses) 378 = .ok (.bipush (-71), 2) := by decide +kernel
theorem dL_refuses_380 : decode (mC M_L_refuses) 380 = .ok (.if_icmp .ne 144, 3) := by decide +kernel
theorem dL_refuses_383 : decode (mC M_L_refuses) 383 = .ok (.aload_n 0, 1) := by decide +kernel
theorem dL_refuses_384 : decode (mC M_L_refuses) 384 = .ok (.bipush 11, 2) := by decide +kernel
theorem dL_refuses_386 : decode (mC M_L_refuses) 386 = .ok (.iload 9, 2) := by decide +kernel
theorem dL_refuses_388 : decode (mC M_L_refuses) 388 = .ok (.iconst 0, 1) := by decide +kernel
theorem dL_refuses_389 : decode (mC M_L_refuses) 389 = .ok (.iconst 0, 1) := by decide +kernel
theorem dL_refuses_390 : decode (mC M_L_refuses) 390 = .ok (.invokestatic 122, 3) := by decide +kernel
theorem dL_refuses_393 : decode (mC M_L_refuses) 393 = .ok (.bipush (-71), 2) := by decide +kernel
theorem dL_refuses_395 : decode (mC M_L_refuses) 395 = .ok (.if_icmp .ne 129, 3) := by decide +kernel
theorem dL_refuses_398 : decode (mC M_L_refuses) 398 = .ok (.aload_n 0, 1) := by decide +kernel
theorem dL_refuses_399 : decode (mC M_L_refuses) 399 = .ok (.bipush 12, 2) := by decide +kernel
theorem dL_refuses_401 : decode (mC M_L_refuses) 401 = .ok (.iload 9, 2) := by decide +kernel
theorem dL_refuses_403 : decode (mC M_L_refuses) 403 = .ok (.iconst 0, 1) := by decide +kernel
theorem dL_refuses_404 : decode (mC M_L_refuses) 404 = .ok (.iconst 0, 1) := by decide +kernel
theorem dL_refuses_405 : decode (mC M_L_refuses) 405 = .ok (.invokestatic 122, 3) := by decide +kernel
theorem dL_refuses_408 : decode (mC M_L_refuses) 408 = .ok (.bipush (-71), 2) := by decide +kernel
theorem dL_refuses_410 : decode (mC M_L_refuses) 410 = .ok (.if_icmp .ne 114, 3) := by decide +kernel
theorem dL_refuses_413 : decode (mC M_L_refuses) 413 = .ok (.aload_n 0, 1) := by decide +kernel
theorem dL_refuses_414 : decode (mC M_L_refuses) 414 = .ok (.bipush 28, 2) := by decide +kernel
theorem dL_refuses_416 : decode (mC M_L_refuses) 416 = .ok (.iload 11, 2) := by decide +kernel
theorem dL_refuses_418 : decode (mC M_L_refuses) 418 = .ok (.iconst 0, 1) := by decide +kernel
theorem dL_refuses_419 : decode (mC M_L_refuses) 419 = .ok (.iconst 0, 1) := by decide +kernel
theorem dL_refuses_420 : decode (mC M_L_refuses) 420 = .ok (.invokestatic 122, 3) := by decide +kernel
theorem dL_refuses_423 : decode (mC M_L_refuses) 423 = .ok (.bipush (-71), 2) := by decide +kernel
theorem dL_refuses_425 : decode (mC M_L_refuses) 425 = .ok (.if_icmp .ne 99, 3) := by decide +kernel
theorem dL_refuses_428 : decode (mC M_L_refuses) 428 = .ok (.aload_n 0, 1) := by decide +kernel
theorem dL_refuses_429 : decode (mC M_L_refuses) 429 = .ok (.bipush 28, 2) := by decide +kernel
theorem dL_refuses_431 : decode (mC M_L_refuses) 431 = .ok (.iconst 0, 1) := by decide +kernel
theorem dL_refuses_432 : decode (mC M_L_refuses) 432 = .ok (.iload 10, 2) := by decide +kernel
theorem dL_refuses_434 : decode (mC M_L_refuses) 434 = .ok (.iconst 0, 1) := by decide +kernel
theorem dL_refuses_435 : decode (mC M_L_refuses) 435 = .ok (.invokestatic 122, 3) := by decide +kernel
theorem dL_refuses_438 : decode (mC M_L_refuses) 438 = .ok (.bipush (-71), 2) := by decide +kernel
theorem dL_refuses_440 : decode (mC M_L_refuses) 440 = .ok (.if_icmp .ne 84, 3) := by decide +kernel
theorem dL_refuses_443 : decode (mC M_L_refuses) 443 = .ok (.aload_n 0, 1) := by decide +kernel
theorem dL_refuses_444 : decode (mC M_L_refuses) 444 = .ok (.bipush 29, 2) := by decide +kernel
theorem dL_refuses_446 : decode (mC M_L_refuses) 446 = .ok (.iload 11, 2) := by decide +kernel
theorem dL_refuses_448 : decode (mC M_L_refuses) 448 = .ok (.bipush 9, 2) := by decide +kernel
theorem dL_refuses_450 : decode (mC M_L_refuses) 450 = .ok (.iconst 0, 1) := by decide +kernel
theorem dL_refuses_451 : decode (mC M_L_refuses) 451 = .ok (.invokestatic 122, 3) := by decide +kernel
theorem dL_refuses_454 : decode (mC M_L_refuses) 454 = .ok (.bipush (-71), 2) := by decide +kernel
theorem dL_refuses_456 : decode (mC M_L_refuses) 456 = .ok (.if_icmp .ne 68, 3) := by decide +kernel
theorem dL_refuses_459 : decode (mC M_L_refuses) 459 = .ok (.aload_n 0, 1) := by decide +kernel
theorem dL_refuses_460 : decode (mC M_L_refuses) 460 = .ok (.bipush 30, 2) := by decide +kernel
theorem dL_refuses_462 : decode (mC M_L_refuses) 462 = .ok (.iload 11, 2) := by decide +kernel
theorem dL_refuses_464 : decode (mC M_L_refuses) 464 = .ok (.bipush 9, 2) := by decide +kernel
theorem dL_refuses_466 : decode (mC M_L_refuses) 466 = .ok (.iconst 0, 1) := by decide +kernel
theorem dL_refuses_467 : decode (mC M_L_refuses) 467 = .ok (.invokestatic 122, 3) := by decide +kernel
theorem dL_refuses_470 : decode (mC M_L_refuses) 470 = .ok (.bipush (-71), 2) := by decide +kernel
theorem dL_refuses_472 : decode (mC M_L_refuses) 472 = .ok (.if_icmp .ne 52, 3) := by decide +kernel
theorem dL_refuses_475 : decode (mC M_L_refuses) 475 = .ok (.aload_n 0, 1) := by decide +kernel
theorem dL_refuses_476 : decode (mC M_L_refuses) 476 = .ok (.bipush 31, 2) := by decide +kernel
theorem dL_refuses_478 : decode (mC M_L_refuses) 478 = .ok (.iload 9, 2) := by decide +kernel
theorem dL_refuses_480 : decode (mC M_L_refuses) 480 = .ok (.iconst 0, 1) := by decide +kernel
theorem dL_refuses_481 : decode (mC M_L_refuses) 481 = .ok (.iconst 0, 1) := by decide +kernel
theorem dL_refuses_482 : decode (mC M_L_refuses) 482 = .ok (.invokestatic 122, 3) := by decide +kernel
theorem dL_refuses_485 : decode (mC M_L_refuses) 485 = .ok (.bipush (-71), 2) := by decide +kernel
theorem dL_refuses_487 : decode (mC M_L_refuses) 487 = .ok (.if_icmp .ne 37, 3) := by decide +kernel
theorem dL_refuses_490 : decode (mC M_L_refuses) 490 = .ok (.aload_n 0, 1) := by decide +kernel
theorem dL_refuses_491 : decode (mC M_L_refuses) 491 = .ok (.bipush 32, 2) := by decide +kernel
theorem dL_refuses_493 : decode (mC M_L_refuses) 493 = .ok (.iload 10, 2) := by decide +kernel
theorem dL_refuses_495 : decode (mC M_L_refuses) 495 = .ok (.iconst 0, 1) := by decide +kernel
theorem dL_refuses_496 : decode (mC M_L_refuses) 496 = .ok (.iconst 0, 1) := by decide +kernel
theorem dL_refuses_497 : decode (mC M_L_refuses) 497 = .ok (.invokestatic 122, 3) := by decide +kernel
theorem dL_refuses_500 : decode (mC M_L_refuses) 500 = .ok (.bipush (-71), 2) := by decide +kernel
theorem dL_refuses_502 : decode (mC M_L_refuses) 502 = .ok (.if_icmp .ne 22, 3) := by decide +kernel
theorem dL_refuses_505 : decode (mC M_L_refuses) 505 = .ok (.aload_n 0, 1) := by decide +kernel
theorem dL_refuses_506 : decode (mC M_L_refuses) 506 = .ok (.bipush 32, 2) := by decide +kernel
theorem dL_refuses_508 : decode (mC M_L_refuses) 508 = .ok (.iconst 0, 1) := by decide +kernel
theorem dL_refuses_509 : decode (mC M_L_refuses) 509 = .ok (.iload 12, 2) := by decide +kernel
theorem dL_refuses_511 : decode (mC M_L_refuses) 511 = .ok (.iconst 0, 1) := by decide +kernel
theorem dL_refuses_512 : decode (mC M_L_refuses) 512 = .ok (.invokestatic 122, 3) := by decide +kernel
theorem dL_refuses_515 : decode (mC M_L_refuses) 515 = .ok (.bipush (-72), 2) := by decide +kernel
theorem dL_refuses_517 : decode (mC M_L_refuses) 517 = .ok (.if_icmp .ne 7, 3) := by decide +kernel
theorem dL_refuses_520 : decode (mC M_L_refuses) 520 = .ok (.iconst 1, 1) := by decide +kernel
theorem dL_refuses_521 : decode (mC M_L_refuses) 521 = .ok (.goto 4, 3) := by decide +kernel
theorem dL_refuses_524 : decode (mC M_L_refuses) 524 = .ok (.iconst 0, 1) := by decide +kernel
theorem dL_refuses_525 : decode (mC M_L_refuses) 525 = .ok (.istore 13, 2) := by decide +kernel
theorem dL_refuses_527 : decode (mC M_L_refuses) 527 = .ok (.iconst 2, 1) := by decide +kernel
theorem dL_refuses_528 : decode (mC M_L_refuses) 528 = .ok (.istore 14, 2) := by decide +kernel
theorem dL_refuses_530 : decode (mC M_L_refuses) 530 = .ok (.iload 14, 2) := by decide +kernel
theorem dL_refuses_532 : decode (mC M_L_refuses) 532 = .ok (.bipush 28, 2) := by decide +kernel
theorem dL_refuses_534 : decode (mC M_L_refuses) 534 = .ok (.if_icmp .ge 131, 3) := by decide +kernel
theorem dL_refuses_537 : decode (mC M_L_refuses) 537 = .ok (.iload 14, 2) := by decide +kernel
theorem dL_refuses_539 : decode (mC M_L_refuses) 539 = .ok (.iconst 5, 1) := by decide +kernel
theorem dL_refuses_540 : decode (mC M_L_refuses) 540 = .ok (.if_icmp .lt 17, 3) := by decide +kernel
theorem dL_refuses_543 : decode (mC M_L_refuses) 543 = .ok (.iload 14, 2) := by decide +kernel
theorem dL_refuses_545 : decode (mC M_L_refuses) 545 = .ok (.bipush 12, 2) := by decide +kernel
theorem dL_refuses_547 : decode (mC M_L_refuses) 547 = .ok (.if_icmp .le 14, 3) := by decide +kernel
theorem dL_refuses_550 : decode (mC M_L_refuses) 550 = .ok (.iload 14, 2) := by decide +kernel
theorem dL_refuses_552 : decode (mC M_L_refuses) 552 = .ok (.bipush 17, 2) := by decide +kernel
theorem dL_refuses_554 : decode (mC M_L_refuses) 554 = .ok (.if_icmp .ge 7, 3) := by decide +kernel
theorem dL_refuses_557 : decode (mC M_L_refuses) 557 = .ok (.iconst 1, 1) := by decide +kernel
theorem dL_refuses_558 : decode (mC M_L_refuses) 558 = .ok (.goto 4, 3) := by decide +kernel
theorem dL_refuses_561 : decode (mC M_L_refuses) 561 = .ok (.iconst 0, 1) := by decide +kernel
theorem dL_refuses_562 : decode (mC M_L_refuses) 562 = .ok (.istore 15, 2) := by decide +kernel
theorem dL_refuses_564 : decode (mC M_L_refuses) 564 = .ok (.iload 14, 2) := by decide +kernel
theorem dL_refuses_566 : decode (mC M_L_refuses) 566 = .ok (.bipush 16, 2) := by decide +kernel
theorem dL_refuses_568 : decode (mC M_L_refuses) 568 = .ok (.if_icmp .le 14, 3) := by decide +kernel
theorem dL_refuses_571 : decode (mC M_L_refuses) 571 = .ok (.iload 14, 2) := by decide +kernel
theorem dL_refuses_573 : decode (mC M_L_refuses) 573 = .ok (.bipush 22, 2) := by decide +kernel
theorem dL_refuses_575 : decode (mC M_L_refuses) 575 = .ok (.if_icmp .ge 7, 3) := by decide +kernel
theorem dL_refuses_578 : decode (mC M_L_refuses) 578 = .ok (.iconst 1, 1) := by decide +kernel
theorem dL_refuses_579 : decode (mC M_L_refuses) 579 = .ok (.goto 4, 3) := by decide +kernel
theorem dL_refuses_582 : decode (mC M_L_refuses) 582 = .ok (.iconst 0, 1) := by decide +kernel
theorem dL_refuses_583 : decode (mC M_L_refuses) 583 = .ok (.istore 16, 2) := by decide +kernel
theorem dL_refuses_585 : decode (mC M_L_refuses) 585 = .ok (.iload 13, 2) := by decide +kernel
theorem dL_refuses_587 : decode (mC M_L_refuses) 587 = .ok (.ifCond .eq 69, 3) := by decide +kernel
theorem dL_refuses_590 : decode (mC M_L_refuses) 590 = .ok (.iload 15, 2) := by decide +kernel
theorem dL_refuses_592 : decode (mC M_L_refuses) 592 = .ok (.ifCond .eq 18, 3) := by decide +kernel
theorem dL_refuses_595 : decode (mC M_L_refuses) 595 = .ok (.aload_n 0, 1) := by decide +kernel
theorem dL_refuses_596 : decode (mC M_L_refuses) 596 = .ok (.iload 14, 2) := by decide +kernel
theorem dL_refuses_598 : decode (mC M_L_refuses) 598 = .ok (.iload 8, 2) := by decide +kernel
theorem dL_refuses_600 : decode (mC M_L_refuses) 600 = .ok (.iconst 0, 1) := by decide +kernel
theorem dL_refuses_601 : decode (mC M_L_refuses) 601 = .ok (.iconst 0, 1) := by decide +kernel
theorem dL_refuses_602 : decode (mC M_L_refuses) 602 = .ok (.invokestatic 122, 3) := by decide +kernel
theorem dL_refuses_605 : decode (mC M_L_refuses) 605 = .ok (.bipush (-71), 2) := by decide +kernel
theorem dL_refuses_607 : decode (mC M_L_refuses) 607 = .ok (.if_icmp .ne 49, 3) := by decide +kernel
theorem dL_refuses_610 : decode (mC M_L_refuses) 610 = .ok (.iload 16, 2) := by decide +kernel
theorem dL_refuses_612 : decode (mC M_L_refuses) 612 = .ok (.ifCond .eq 18, 3) := by decide +kernel
theorem dL_refuses_615 : decode (mC M_L_refuses) 615 = .ok (.aload_n 0, 1) := by decide +kernel
theorem dL_refuses_616 : decode (mC M_L_refuses) 616 = .ok (.iload 14, 2) := by decide +kernel
theorem dL_refuses_618 : decode (mC M_L_refuses) 618 = .ok (.iload 10, 2) := by decide +kernel
theorem dL_refuses_620 : decode (mC M_L_refuses) 620 = .ok (.iconst 0, 1) := by decide +kernel
theorem dL_refuses_621 : decode (mC M_L_refuses) 621 = .ok (.iconst 0, 1) := by decide +kernel
theorem dL_refuses_622 : decode (mC M_L_refuses) 622 = .ok (.invokestatic 122, 3) := by decide +kernel
theorem dL_refuses_625 : decode (mC M_L_refuses) 625 = .ok (.bipush (-71), 2) := by decide +kernel
theorem dL_refuses_627 : decode (mC M_L_refuses) 627 = .ok (.if_icmp .ne 29, 3) := by decide +kernel
theorem dL_refuses_630 : decode (mC M_L_refuses) 630 = .ok (.iload 14, 2) := by decide +kernel
theorem dL_refuses_632 : decode (mC M_L_refuses) 632 = .ok (.bipush 22, 2) := by decide +kernel
theorem dL_refuses_634 : decode (mC M_L_refuses) 634 = .ok (.if_icmp .lt 18, 3) := by decide +kernel
theorem dL_refuses_637 : decode (mC M_L_refuses) 637 = .ok (.aload_n 0, 1) := by decide +kernel
theorem dL_refuses_638 : decode (mC M_L_refuses) 638 = .ok (.iload 14, 2) := by decide +kernel
theorem dL_refuses_640 : decode (mC M_L_refuses) 640 = .ok (.iload 11, 2) := by decide +kernel
theorem dL_refuses_642 : decode (mC M_L_refuses) 642 = .ok (.iconst 0, 1) := by decide +kernel
theorem dL_refuses_643 : decode (mC M_L_refuses) 643 = .ok (.iconst 0, 1) := by decide +kernel
theorem dL_refuses_644 : decode (mC M_L_refuses) 644 = .ok (.invokestatic 122, 3) := by decide +kernel
theorem dL_refuses_647 : decode (mC M_L_refuses) 647 = .ok (.bipush (-71), 2) := by decide +kernel
theorem dL_refuses_649 : decode (mC M_L_refuses) 649 = .ok (.if_icmp .ne 7, 3) := by decide +kernel
theorem dL_refuses_652 : decode (mC M_L_refuses) 652 = .ok (.iconst 1, 1) := by decide +kernel
theorem dL_refuses_653 : decode (mC M_L_refuses) 653 = .ok (.goto 4, 3) := by decide +kernel
theorem dL_refuses_656 : decode (mC M_L_refuses) 656 = .ok (.iconst 0, 1) := by decide +kernel
theorem dL_refuses_657 : decode (mC M_L_refuses) 657 = .ok (.istore 13, 2) := by decide +kernel
theorem dL_refuses_659 : decode (mC M_L_refuses) 659 = .ok (.iinc 14 1, 3) := by decide +kernel
theorem dL_refuses_662 : decode (mC M_L_refuses) 662 = .ok (.goto (-132), 3) := by decide +kernel
theorem dL_refuses_665 : decode (mC M_L_refuses) 665 = .ok (.bipush 29, 2) := by decide +kernel
theorem dL_refuses_667 : decode (mC M_L_refuses) 667 = .ok (.istore 14, 2) := by decide +kernel
theorem dL_refuses_669 : decode (mC M_L_refuses) 669 = .ok (.iload 14, 2) := by decide +kernel
theorem dL_refuses_671 : decode (mC M_L_refuses) 671 = .ok (.bipush 31, 2) := by decide +kernel
theorem dL_refuses_673 : decode (mC M_L_refuses) 673 = .ok (.if_icmp .ge 55, 3) := by decide +kernel
theorem dL_refuses_676 : decode (mC M_L_refuses) 676 = .ok (.iload_n 1, 1) := by decide +kernel
theorem dL_refuses_677 : decode (mC M_L_refuses) 677 = .ok (.ifCond .le 51, 3) := by decide +kernel
theorem dL_refuses_680 : decode (mC M_L_refuses) 680 = .ok (.iload 13, 2) := by decide +kernel
theorem dL_refuses_682 : decode (mC M_L_refuses) 682 = .ok (.ifCond .eq 37, 3) := by decide +kernel
theorem dL_refuses_685 : decode (mC M_L_refuses) 685 = .ok (.aload_n 0, 1) := by decide +kernel
theorem dL_refuses_686 : decode (mC M_L_refuses) 686 = .ok (.iload 14, 2) := by decide +kernel
theorem dL_refuses_688 : decode (mC M_L_refuses) 688 = .ok (.iconst 0, 1) := by decide +kernel
theorem dL_refuses_689 : decode (mC M_L_refuses) 689 = .ok (.iload 10, 2) := by decide +kernel
theorem dL_refuses_691 : decode (mC M_L_refuses) 691 = .ok (.iconst 5, 1) := by decide +kernel
theorem dL_refuses_692 : decode (mC M_L_refuses) 692 = .ok (.invokestatic 122, 3) := by decide +kernel
theorem dL_refuses_695 : decode (mC M_L_refuses) 695 = .ok (.bipush (-72), 2) := by decide +kernel
theorem dL_refuses_697 : decode (mC M_L_refuses) 697 = .ok (.if_icmp .ne 22, 3) := by decide +kernel
theorem dL_refuses_700 : decode (mC M_L_refuses) 700 = .ok (.aload_n 0, 1) := by decide +kernel
theorem dL_refuses_701 : decode (mC M_L_refuses) 701 = .ok (.iload 14, 2) := by decide +kernel
theorem dL_refuses_703 : decode (mC M_L_refuses) 703 = .ok (.iconst 0, 1) := by decide +kernel
theorem dL_refuses_704 : decode (mC M_L_refuses) 704 = .ok (.iconst 0, 1) := by decide +kernel
theorem dL_refuses_705 : decode (mC M_L_refuses) 705 = .ok (.iload 12, 2) := by decide +kernel
theorem dL_refuses_707 : decode (mC M_L_refuses) 707 = .ok (.invokestatic 122, 3) := by decide +kernel
theorem dL_refuses_710 : decode (mC M_L_refuses) 710 = .ok (.bipush (-72), 2) := by decide +kernel
theorem dL_refuses_712 : decode (mC M_L_refuses) 712 = .ok (.if_icmp .ne 7, 3) := by decide +kernel
theorem dL_refuses_715 : decode (mC M_L_refuses) 715 = .ok (.iconst 1, 1) := by decide +kernel
theorem dL_refuses_716 : decode (mC M_L_refuses) 716 = .ok (.goto 4, 3) := by decide +kernel
theorem dL_refuses_719 : decode (mC M_L_refuses) 719 = .ok (.iconst 0, 1) := by decide +kernel
theorem dL_refuses_720 : decode (mC M_L_refuses) 720 = .ok (.istore 13, 2) := by decide +kernel
theorem dL_refuses_722 : decode (mC M_L_refuses) 722 = .ok (.iinc 14 1, 3) := by decide +kernel
theorem dL_refuses_725 : decode (mC M_L_refuses) 725 = .ok (.goto (-56), 3) := by decide +kernel
theorem dL_refuses_728 : decode (mC M_L_refuses) 728 = .ok (.iload 13, 2) := by decide +kernel
theorem dL_refuses_730 : decode (mC M_L_refuses) 730 = .ok (.ifCond .eq 37, 3) := by decide +kernel
theorem dL_refuses_733 : decode (mC M_L_refuses) 733 = .ok (.iload_n 1, 1) := by decide +kernel
theorem dL_refuses_734 : decode (mC M_L_refuses) 734 = .ok (.ifCond .le 35, 3) := by decide +kernel
theorem dL_refuses_737 : decode (mC M_L_refuses) 737 = .ok (.aload_n 0, 1) := by decide +kernel
theorem dL_refuses_738 : decode (mC M_L_refuses) 738 = .ok (.bipush 9, 2) := by decide +kernel
theorem dL_refuses_740 : decode (mC M_L_refuses) 740 = .ok (.iconst 0, 1) := by decide +kernel
theorem dL_refuses_741 : decode (mC M_L_refuses) 741 = .ok (.iload 10, 2) := by decide +kernel
theorem dL_refuses_743 : decode (mC M_L_refuses) 743 = .ok (.iconst 5, 1) := by decide +kernel
theorem dL_refuses_744 : decode (mC M_L_refuses) 744 = .ok (.invokestatic 122, 3) := by decide +kernel
theorem dL_refuses_747 : decode (mC M_L_refuses) 747 = .ok (.bipush (-72), 2) := by decide +kernel
theorem dL_refuses_749 : decode (mC M_L_refuses) 749 = .ok (.if_icmp .ne 18, 3) := by decide +kernel
theorem dL_refuses_752 : decode (mC M_L_refuses) 752 = .ok (.aload_n 0, 1) := by decide +kernel
theorem dL_refuses_753 : decode (mC M_L_refuses) 753 = .ok (.bipush 9, 2) := by decide +kernel
theorem dL_refuses_755 : decode (mC M_L_refuses) 755 = .ok (.iconst 0, 1) := by decide +kernel
theorem dL_refuses_756 : decode (mC M_L_refuses) 756 = .ok (.iconst 0, 1) := by decide +kernel
theorem dL_refuses_757 : decode (mC M_L_refuses) 757 = .ok (.iload 12, 2) := by decide +kernel
theorem dL_refuses_759 : decode (mC M_L_refuses) 759 = .ok (.invokestatic 122, 3) := by decide +kernel
theorem dL_refuses_762 : decode (mC M_L_refuses) 762 = .ok (.bipush (-72), 2) := by decide +kernel
theorem dL_refuses_764 : decode (mC M_L_refuses) 764 = .ok (.if_icmp .eq 5, 3) := by decide +kernel
theorem dL_refuses_767 : decode (mC M_L_refuses) 767 = .ok (.iconst 0, 1) := by decide +kernel
theorem dL_refuses_768 : decode (mC M_L_refuses) 768 = .ok (.ireturn, 1) := by decide +kernel
theorem dL_refuses_769 : decode (mC M_L_refuses) 769 = .ok (.iinc 6 1, 3) := by decide +kernel
theorem dL_refuses_772 : decode (mC M_L_refuses) 772 = .ok (.goto (-747), 3) := by decide +kernel
theorem dL_refuses_775 : decode (mC M_L_refuses) 775 = .ok (.aload_n 0, 1) := by decide +kernel
theorem dL_refuses_776 : decode (mC M_L_refuses) 776 = .ok (.invokevirtual 117, 3) := by decide +kernel
theorem dL_refuses_779 : decode (mC M_L_refuses) 779 = .ok (.iload_n 2, 1) := by decide +kernel
theorem dL_refuses_780 : decode (mC M_L_refuses) 780 = .ok (.if_icmp .ne 34, 3) := by decide +kernel
theorem dL_refuses_783 : decode (mC M_L_refuses) 783 = .ok (.aload_n 0, 1) := by decide +kernel
theorem dL_refuses_784 : decode (mC M_L_refuses) 784 = .ok (.iconst 2, 1) := by decide +kernel
theorem dL_refuses_785 : decode (mC M_L_refuses) 785 = .ok (.invokevirtual 62, 3) := by decide +kernel
theorem dL_refuses_788 : decode (mC M_L_refuses) 788 = .ok (.iload_n 3, 1) := by decide +kernel
theorem dL_refuses_789 : decode (mC M_L_refuses) 789 = .ok (.if_icmp .ne 25, 3) := by decide +kernel
theorem dL_refuses_792 : decode (mC M_L_refuses) 792 = .ok (.aload_n 0, 1) := by decide +kernel
theorem dL_refuses_793 : decode (mC M_L_refuses) 793 = .ok (.iconst 0, 1) := by decide +kernel
theorem dL_refuses_794 : decode (mC M_L_refuses) 794 = .ok (.invokevirtual 56, 3) := by decide +kernel
theorem dL_refuses_797 : decode (mC M_L_refuses) 797 = .ok (.iload 4, 2) := by decide +kernel
theorem dL_refuses_799 : decode (mC M_L_refuses) 799 = .ok (.if_icmp .ne 15, 3) := by decide +kernel
theorem dL_refuses_802 : decode (mC M_L_refuses) 802 = .ok (.aload_n 0, 1) := by decide +kernel
theorem dL_refuses_803 : decode (mC M_L_refuses) 803 = .ok (.invokevirtual 128, 3) := by decide +kernel
theorem dL_refuses_806 : decode (mC M_L_refuses) 806 = .ok (.iload_n 1, 1) := by decide +kernel
theorem dL_refuses_807 : decode (mC M_L_refuses) 807 = .ok (.if_icmp .ne 7, 3) := by decide +kernel
theorem dL_refuses_810 : decode (mC M_L_refuses) 810 = .ok (.iconst 1, 1) := by decide +kernel
theorem dL_refuses_811 : decode (mC M_L_refuses) 811 = .ok (.goto 4, 3) := by decide +kernel
theorem dL_refuses_814 : decode (mC M_L_refuses) 814 = .ok (.iconst 0, 1) := by decide +kernel
theorem dL_refuses_815 : decode (mC M_L_refuses) 815 = .ok (.ireturn, 1) := by decide +kernel
theorem dL_owe_0 : decode (mC M_L_owe) 0 = .ok (.aload_n 0, 1) := by decide +kernel
theorem dL_owe_1 : decode (mC M_L_owe) 1 = .ok (.iload_n 1, 1) := by decide +kernel
theorem dL_owe_2 : decode (mC M_L_owe) 2 = .ok (.invokevirtual 62, 3) := by decide +kernel
theorem dL_owe_5 : decode (mC M_L_owe) 5 = .ok (.iload_n 2, 1) := by decide +kernel
theorem dL_owe_6 : decode (mC M_L_owe) 6 = .ok (.if_icmp .ne 16, 3) := by decide +kernel
theorem dL_owe_9 : decode (mC M_L_owe) 9 = .ok (.aload_n 0, 1) := by decide +kernel
theorem dL_owe_10 : decode (mC M_L_owe) 10 = .ok (.iload_n 1, 1) := by decide +kernel
theorem dL_owe_11 : decode (mC M_L_owe) 11 = .ok (.invokevirtual 65, 3) := by decide +kernel
theorem dL_owe_14 : decode (mC M_L_owe) 14 = .ok (.iload_n 2, 1) := by decide +kernel
theorem dL_owe_15 : decode (mC M_L_owe) 15 = .ok (.if_icmp .ne 7, 3) := by decide +kernel
theorem dL_owe_18 : decode (mC M_L_owe) 18 = .ok (.iconst 1, 1) := by decide +kernel
theorem dL_owe_19 : decode (mC M_L_owe) 19 = .ok (.goto 4, 3) := by decide +kernel
theorem dL_owe_22 : decode (mC M_L_owe) 22 = .ok (.iconst 0, 1) := by decide +kernel
theorem dL_owe_23 : decode (mC M_L_owe) 23 = .ok (.ireturn, 1) := by decide +kernel
theorem dL_tables_0 : decode (mC M_L_tables) 0 = .ok (.new 8, 3) := by decide +kernel
theorem dL_tables_3 : decode (mC M_L_tables) 3 = .ok (.dup, 1) := by decide +kernel
theorem dL_tables_4 : decode (mC M_L_tables) 4 = .ok (.invokespecial 131, 3) := by decide +kernel
theorem dL_tables_7 : decode (mC M_L_tables) 7 = .ok (.astore_n 0, 1) := by decide +kernel
theorem dL_tables_8 : decode (mC M_L_tables) 8 = .ok (.bipush (-73), 2) := by decide +kernel
theorem dL_tables_10 : decode (mC M_L_tables) 10 = .ok (.istore_n 1, 1) := by decide +kernel
theorem dL_tables_11 : decode (mC M_L_tables) 11 = .ok (.aload_n 0, 1) := by decide +kernel
theorem dL_tables_12 : decode (mC M_L_tables) 12 = .ok (.iconst 0, 1) := by decide +kernel
theorem dL_tables_13 : decode (mC M_L_tables) 13 = .ok (.invokestatic 132, 3) := by decide +kernel
theorem dL_tables_16 : decode (mC M_L_tables) 16 = .ok (.ifCond .eq 331, 3) := by decide +kernel
theorem dL_tables_19 : decode (mC M_L_tables) 19 = .ok (.aload_n 0, 1) := by decide +kernel
theorem dL_tables_20 : decode (mC M_L_tables) 20 = .ok (.iconst 3, 1) := by decide +kernel
theorem dL_tables_21 : decode (mC M_L_tables) 21 = .ok (.invokevirtual 49, 3) := by decide +kernel
theorem dL_tables_24 : decode (mC M_L_tables) 24 = .ok (.ifCond .eq 323, 3) := by decide +kernel
theorem dL_tables_27 : decode (mC M_L_tables) 27 = .ok (.aload_n 0, 1) := by decide +kernel
theorem dL_tables_28 : decode (mC M_L_tables) 28 = .ok (.iconst 0, 1) := by decide +kernel
theorem dL_tables_29 : decode (mC M_L_tables) 29 = .ok (.invokevirtual 53, 3) := by decide +kernel
theorem dL_tables_32 : decode (mC M_L_tables) 32 = .ok (.iconst (-1), 1) := by decide +kernel
theorem dL_tables_33 : decode (mC M_L_tables) 33 = .ok (.if_icmp .ne 314, 3) := by decide +kernel
theorem dL_tables_36 : decode (mC M_L_tables) 36 = .ok (.aload_n 0, 1) := by decide +kernel
theorem dL_tables_37 : decode (mC M_L_tables) 37 = .ok (.iconst 0, 1) := by decide +kernel
theorem dL_tables_38 : decode (mC M_L_tables) 38 = .ok (.invokevirtual 56, 3) := by decide +kernel
theorem dL_tables_41 : decode (mC M_L_tables) 41 = .ok (.ifCond .ne 306, 3) := by decide +kernel
theorem dL_tables_44 : decode (mC M_L_tables) 44 = .ok (.aload_n 0, 1) := by decide +kernel
theorem dL_tables_45 : decode (mC M_L_tables) 45 = .ok (.iconst 0, 1) := by decide +kernel
theorem dL_tables_46 : decode (mC M_L_tables) 46 = .ok (.invokevirtual 59, 3) := by decide +kernel
theorem dL_tables_49 : decode (mC M_L_tables) 49 = .ok (.iconst (-1), 1) := by decide +kernel
theorem dL_tables_50 : decode (mC M_L_tables) 50 = .ok (.if_icmp .ne 297, 3) := by decide +kernel
theorem dL_tables_53 : decode (mC M_L_tables) 53 = .ok (.aload_n 0, 1) := by decide +kernel
theorem dL_tables_54 : decode (mC M_L_tables) 54 = .ok (.iconst 2, 1) := by decide +kernel
theorem dL_tables_55 : decode (mC M_L_tables) 55 = .ok (.iconst 0, 1) := by decide +kernel
theorem dL_tables_56 : decode (mC M_L_tables) 56 = .ok (.invokestatic 136, 3) := by decide +kernel
theorem dL_tables_59 : decode (mC M_L_tables) 59 = .ok (.ifCond .eq 288, 3) := by decide +kernel
theorem dL_tables_62 : decode (mC M_L_tables) 62 = .ok (.aload_n 0, 1) := by decide +kernel
theorem dL_tables_63 : decode (mC M_L_tables) 63 = .ok (.bipush 10, 2) := by decide +kernel
theorem dL_tables_65 : decode (mC M_L_tables) 65 = .ok (.invokevirtual 7, 3) := by decide +kernel
theorem dL_tables_68 : decode (mC M_L_tables) 68 = .ok (.bipush 6, 2) := by decide +kernel
theorem dL_tables_70 : decode (mC M_L_tables) 70 = .ok (.if_icmp .ne 277, 3) := by decide +kernel
theorem dL_tables_73 : decode (mC M_L_tables) 73 = .ok (.aload_n 0, 1) := by decide +kernel
theorem dL_tables_74 : decode (mC M_L_tables) 74 = .ok (.iconst 0, 1) := by decide +kernel
theorem dL_tables_75 : decode (mC M_L_tables) 75 = .ok (.iconst 2, 1) := by decide +kernel
theorem dL_tables_76 : decode (mC M_L_tables) 76 = .ok (.invokevirtual 13, 3) := by decide +kernel
theorem dL_tables_79 : decode (mC M_L_tables) 79 = .ok (.iconst 1, 1) := by decide +kernel
theorem dL_tables_80 : decode (mC M_L_tables) 80 = .ok (.if_icmp .ne 267, 3) := by decide +kernel
theorem dL_tables_83 : decode (mC M_L_tables) 83 = .ok (.aload_n 0, 1) := by decide +kernel
theorem dL_tables_84 : decode (mC M_L_tables) 84 = .ok (.iconst 1, 1) := by decide +kernel
theorem dL_tables_85 : decode (mC M_L_tables) 85 = .ok (.iconst 0, 1) := by decide +kernel
theorem dL_tables_86 : decode (mC M_L_tables) 86 = .ok (.iconst 3, 1) := by decide +kernel
theorem dL_tables_87 : decode (mC M_L_tables) 87 = .ok (.iconst 0, 1) := by decide +kernel
theorem dL_tables_88 : decode (mC M_L_tables) 88 = .ok (.invokestatic 122, 3) := by decide +kernel
theorem dL_tables_91 : decode (mC M_L_tables) 91 = .ok (.iload_n 1, 1) := by decide +kernel
theorem dL_tables_92 : decode (mC M_L_tables) 92 = .ok (.if_icmp .ne 255, 3) := by decide +kernel
theorem dL_tables_95 : decode (mC M_L_tables) 95 = .ok (.aload_n 0, 1) := by decide +kernel
theorem dL_tables_96 : decode (mC M_L_tables) 96 = .ok (.iconst 1, 1) := by decide +kernel
theorem dL_tables_97 : decode (mC M_L_tables) 97 = .ok (.iconst 1, 1) := by decide +kernel
theorem dL_tables_98 : decode (mC M_L_tables) 98 = .ok (.iconst 2, 1) := by decide +kernel
theorem dL_tables_99 : decode (mC M_L_tables) 99 = .ok (.iconst 0, 1) := by decide +kernel
theorem dL_tables_100 : decode (mC M_L_tables) 100 = .ok (.invokestatic 122, 3) := by decide +kernel
theorem dL_tables_103 : decode (mC M_L_tables) 103 = .ok (.iload_n 1, 1) := by decide +kernel
theorem dL_tables_104 : decode (mC M_L_tables) 104 = .ok (.if_icmp .ne 243, 3) := by decide +kernel
theorem dL_tables_107 : decode (mC M_L_tables) 107 = .ok (.aload_n 0, 1) := by decide +kernel
theorem dL_tables_108 : decode (mC M_L_tables) 108 = .ok (.iconst 1, 1) := by decide +kernel
theorem dL_tables_109 : decode (mC M_L_tables) 109 = .ok (.iconst 3, 1) := by decide +kernel
theorem dL_tables_110 : decode (mC M_L_tables) 110 = .ok (.invokevirtual 13, 3) := by decide +kernel
theorem dL_tables_113 : decode (mC M_L_tables) 113 = .ok (.iconst 2, 1) := by decide +kernel
theorem dL_tables_114 : decode (mC M_L_tables) 114 = .ok (.if_icmp .ne 233, 3) := by decide +kernel
theorem dL_tables_117 : decode (mC M_L_tables) 117 = .ok (.aload_n 0, 1) := by decide +kernel
theorem dL_tables_118 : decode (mC M_L_tables) 118 = .ok (.bipush 11, 2) := by decide +kernel
theorem dL_tables_120 : decode (mC M_L_tables) 120 = .ok (.invokevirtual 26, 3) := by decide +kernel
theorem dL_tables_123 : decode (mC M_L_tables) 123 = .ok (.bipush 22, 2) := by decide +kernel
theorem dL_tables_125 : decode (mC M_L_tables) 125 = .ok (.if_icmp .ne 222, 3) := by decide +kernel
theorem dL_tables_128 : decode (mC M_L_tables) 128 = .ok (.aload_n 0, 1) := by decide +kernel
theorem dL_tables_129 : decode (mC M_L_tables) 129 = .ok (.invokevirtual 117, 3) := by decide +kernel
theorem dL_tables_132 : decode (mC M_L_tables) 132 = .ok (.bipush 11, 2) := by decide +kernel
theorem dL_tables_134 : decode (mC M_L_tables) 134 = .ok (.if_icmp .ne 213, 3) := by decide +kernel
theorem dL_tables_137 : decode (mC M_L_tables) 137 = .ok (.aload_n 0, 1) := by decide +kernel
theorem dL_tables_138 : decode (mC M_L_tables) 138 = .ok (.iconst 0, 1) := by decide +kernel
theorem dL_tables_139 : decode (mC M_L_tables) 139 = .ok (.invokevirtual 56, 3) := by decide +kernel
theorem dL_tables_142 : decode (mC M_L_tables) 142 = .ok (.bipush 11, 2) := by decide +kernel
theorem dL_tables_144 : decode (mC M_L_tables) 144 = .ok (.if_icmp .ne 203, 3) := by decide +kernel
theorem dL_tables_147 : decode (mC M_L_tables) 147 = .ok (.aload_n 0, 1) := by decide +kernel
theorem dL_tables_148 : decode (mC M_L_tables) 148 = .ok (.bipush 7, 2) := by decide +kernel
theorem dL_tables_150 : decode (mC M_L_tables) 150 = .ok (.iconst 1, 1) := by decide +kernel
theorem dL_tables_151 : decode (mC M_L_tables) 151 = .ok (.iconst 5, 1) := by decide +kernel
theorem dL_tables_152 : decode (mC M_L_tables) 152 = .ok (.bipush 6, 2) := by decide +kernel
theorem dL_tables_154 : decode (mC M_L_tables) 154 = .ok (.invokestatic 122, 3) := by decide +kernel
theorem dL_tables_157 : decode (mC M_L_tables) 157 = .ok (.iload_n 1, 1) := by decide +kernel
theorem dL_tables_158 : decode (mC M_L_tables) 158 = .ok (.if_icmp .ne 189, 3) := by decide +kernel
theorem dL_tables_161 : decode (mC M_L_tables) 161 = .ok (.aload_n 0, 1) := by decide +kernel
theorem dL_tables_162 : decode (mC M_L_tables) 162 = .ok (.bipush 7, 2) := by decide +kernel
theorem dL_tables_164 : decode (mC M_L_tables) 164 = .ok (.iconst 2, 1) := by decide +kernel
theorem dL_tables_165 : decode (mC M_L_tables) 165 = .ok (.iconst 2, 1) := by decide +kernel
theorem dL_tables_166 : decode (mC M_L_tables) 166 = .ok (.bipush 6, 2) := by decide +kernel
theorem dL_tables_168 : decode (mC M_L_tables) 168 = .ok (.invokestatic 122, 3) := by decide +kernel
theorem dL_tables_171 : decode (mC M_L_tables) 171 = .ok (.iload_n 1, 1) := by decide +kernel
theorem dL_tables_172 : decode (mC M_L_tables) 172 = .ok (.if_icmp .ne 175, 3) := by decide +kernel
theorem dL_tables_175 : decode (mC M_L_tables) 175 = .ok (.aload_n 0, 1) := by decide +kernel
theorem dL_tables_176 : decode (mC M_L_tables) 176 = .ok (.iconst 0, 1) := by decide +kernel
theorem dL_tables_177 : decode (mC M_L_tables) 177 = .ok (.iconst 2, 1) := by decide +kernel
theorem dL_tables_178 : decode (mC M_L_tables) 178 = .ok (.iconst 5, 1) := by decide +kernel
theorem dL_tables_179 : decode (mC M_L_tables) 179 = .ok (.iconst 0, 1) := by decide +kernel
theorem dL_tables_180 : decode (mC M_L_tables) 180 = .ok (.invokevirtual 29, 3) := by decide +kernel
theorem dL_tables_183 : decode (mC M_L_tables) 183 = .ok (.ifCond .ne 164, 3) := by decide +kernel
theorem dL_tables_186 : decode (mC M_L_tables) 186 = .ok (.aload_n 0, 1) := by decide +kernel
theorem dL_tables_187 : decode (mC M_L_tables) 187 = .ok (.bipush 6, 2) := by decide +kernel
theorem dL_tables_189 : decode (mC M_L_tables) 189 = .ok (.iconst 0, 1) := by decide +kernel
theorem dL_tables_190 : decode (mC M_L_tables) 190 = .ok (.iconst 3, 1) := by decide +kernel
theorem dL_tables_191 : decode (mC M_L_tables) 191 = .ok (.iconst 4, 1) := by decide +kernel
theorem dL_tables_192 : decode (mC M_L_tables) 192 = .ok (.invokestatic 122, 3) := by decide +kernel
theorem dL_tables_195 : decode (mC M_L_tables) 195 = .ok (.iload_n 1, 1) := by decide +kernel
theorem dL_tables_196 : decode (mC M_L_tables) 196 = .ok (.if_icmp .ne 151, 3) := by decide +kernel
theorem dL_tables_199 : decode (mC M_L_tables) 199 = .ok (.aload_n 0, 1) := by decide +kernel
theorem dL_tables_200 : decode (mC M_L_tables) 200 = .ok (.iconst 1, 1) := by decide +kernel
theorem dL_tables_201 : decode (mC M_L_tables) 201 = .ok (.iconst 5, 1) := by decide +kernel
theorem dL_tables_202 : decode (mC M_L_tables) 202 = .ok (.bipush 6, 2) := by decide +kernel
theorem dL_tables_204 : decode (mC M_L_tables) 204 = .ok (.iconst 1, 1) := by decide +kernel
theorem dL_tables_205 : decode (mC M_L_tables) 205 = .ok (.invokevirtual 29, 3) := by decide +kernel
theorem dL_tables_208 : decode (mC M_L_tables) 208 = .ok (.iconst 1, 1) := by decide +kernel
theorem dL_tables_209 : decode (mC M_L_tables) 209 = .ok (.if_icmp .ne 138, 3) := by decide +kernel
theorem dL_tables_212 : decode (mC M_L_tables) 212 = .ok (.aload_n 0, 1) := by decide +kernel
theorem dL_tables_213 : decode (mC M_L_tables) 213 = .ok (.bipush 9, 2) := by decide +kernel
theorem dL_tables_215 : decode (mC M_L_tables) 215 = .ok (.invokevirtual 26, 3) := by decide +kernel
theorem dL_tables_218 : decode (mC M_L_tables) 218 = .ok (.bipush 9, 2) := by decide +kernel
theorem dL_tables_220 : decode (mC M_L_tables) 220 = .ok (.if_icmp .ne 127, 3) := by decide +kernel
theorem dL_tables_223 : decode (mC M_L_tables) 223 = .ok (.aload_n 0, 1) := by decide +kernel
theorem dL_tables_224 : decode (mC M_L_tables) 224 = .ok (.iconst 0, 1) := by decide +kernel
theorem dL_tables_225 : decode (mC M_L_tables) 225 = .ok (.invokevirtual 56, 3) := by decide +kernel
theorem dL_tables_228 : decode (mC M_L_tables) 228 = .ok (.bipush 20, 2) := by decide +kernel
theorem dL_tables_230 : decode (mC M_L_tables) 230 = .ok (.if_icmp .ne 117, 3) := by decide +kernel
theorem dL_tables_233 : decode (mC M_L_tables) 233 = .ok (.aload_n 0, 1) := by decide +kernel
theorem dL_tables_234 : decode (mC M_L_tables) 234 = .ok (.iconst 1, 1) := by decide +kernel
theorem dL_tables_235 : decode (mC M_L_tables) 235 = .ok (.invokevirtual 56, 3) := by decide +kernel
theorem dL_tables_238 : decode (mC M_L_tables) 238 = .ok (.bipush 11, 2) := by decide +kernel
theorem dL_tables_240 : decode (mC M_L_tables) 240 = .ok (.if_icmp .ne 107, 3) := by decide +kernel
theorem dL_tables_243 : decode (mC M_L_tables) 243 = .ok (.aload_n 0, 1) := by decide +kernel
theorem dL_tables_244 : decode (mC M_L_tables) 244 = .ok (.iconst 1, 1) := by decide +kernel
theorem dL_tables_245 : decode (mC M_L_tables) 245 = .ok (.invokevirtual 53, 3) := by decide +kernel
theorem dL_tables_248 : decode (mC M_L_tables) 248 = .ok (.iconst 3, 1) := by decide +kernel
theorem dL_tables_249 : decode (mC M_L_tables) 249 = .ok (.if_icmp .ne 98, 3) := by decide +kernel
theorem dL_tables_252 : decode (mC M_L_tables) 252 = .ok (.aload_n 0, 1) := by decide +kernel
theorem dL_tables_253 : decode (mC M_L_tables) 253 = .ok (.iconst 3, 1) := by decide +kernel
theorem dL_tables_254 : decode (mC M_L_tables) 254 = .ok (.iconst 0, 1) := by decide +kernel
theorem dL_tables_255 : decode (mC M_L_tables) 255 = .ok (.invokestatic 136, 3) := by decide +kernel
theorem dL_tables_258 : decode (mC M_L_tables) 258 = .ok (.ifCond .eq 89, 3) := by decide +kernel
theorem dL_tables_261 : decode (mC M_L_tables) 261 = .ok (.aload_n 0, 1) := by decide +kernel
theorem dL_tables_262 : decode (mC M_L_tables) 262 = .ok (.iconst 1, 1) := by decide +kernel
theorem dL_tables_263 : decode (mC M_L_tables) 263 = .ok (.invokevirtual 17, 3) := by decide +kernel
theorem dL_tables_266 : decode (mC M_L_tables) 266 = .ok (.bipush 20, 2) := by decide +kernel
theorem dL_tables_268 : decode (mC M_L_tables) 268 = .ok (.if_icmp .ne 79, 3) := by decide +kernel
theorem dL_tables_271 : decode (mC M_L_tables) 271 = .ok (.aload_n 0, 1) := by decide +kernel
theorem dL_tables_272 : decode (mC M_L_tables) 272 = .ok (.iconst 3, 1) := by decide +kernel
theorem dL_tables_273 : decode (mC M_L_tables) 273 = .ok (.bipush 20, 2) := by decide +kernel
theorem dL_tables_275 : decode (mC M_L_tables) 275 = .ok (.invokestatic 136, 3) := by decide +kernel
theorem dL_tables_278 : decode (mC M_L_tables) 278 = .ok (.ifCond .eq 69, 3) := by decide +kernel
theorem dL_tables_281 : decode (mC M_L_tables) 281 = .ok (.aload_n 0, 1) := by decide +kernel
theorem dL_tables_282 : decode (mC M_L_tables) 282 = .ok (.iconst 1, 1) := by decide +kernel
theorem dL_tables_283 : decode (mC M_L_tables) 283 = .ok (.invokevirtual 53, 3) := by decide +kernel
theorem dL_tables_286 : decode (mC M_L_tables) 286 = .ok (.iconst (-1), 1) := by decide +kernel
theorem dL_tables_287 : decode (mC M_L_tables) 287 = .ok (.if_icmp .ne 60, 3) := by decide +kernel
theorem dL_tables_290 : decode (mC M_L_tables) 290 = .ok (.aload_n 0, 1) := by decide +kernel
theorem dL_tables_291 : decode (mC M_L_tables) 291 = .ok (.iconst 1, 1) := by decide +kernel
theorem dL_tables_292 : decode (mC M_L_tables) 292 = .ok (.invokevirtual 56, 3) := by decide +kernel
theorem dL_tables_295 : decode (mC M_L_tables) 295 = .ok (.ifCond .ne 52, 3) := by decide +kernel
theorem dL_tables_298 : decode (mC M_L_tables) 298 = .ok (.aload_n 0, 1) := by decide +kernel
theorem dL_tables_299 : decode (mC M_L_tables) 299 = .ok (.iconst 1, 1) := by decide +kernel
theorem dL_tables_300 : decode (mC M_L_tables) 300 = .ok (.invokevirtual 59, 3) := by decide +kernel
theorem dL_tables_303 : decode (mC M_L_tables) 303 = .ok (.iconst 1, 1) := by decide +kernel
theorem dL_tables_304 : decode (mC M_L_tables) 304 = .ok (.if_icmp .ne 43, 3) := by decide +kernel
theorem dL_tables_307 : decode (mC M_L_tables) 307 = .ok (.aload_n 0, 1) := by decide +kernel
theorem dL_tables_308 : decode (mC M_L_tables) 308 = .ok (.iconst 1, 1) := by decide +kernel
theorem dL_tables_309 : decode (mC M_L_tables) 309 = .ok (.invokevirtual 77, 3) := by decide +kernel
theorem dL_tables_312 : decode (mC M_L_tables) 312 = .ok (.ifCond .ne 35, 3) := by decide +kernel
theorem dL_tables_315 : decode (mC M_L_tables) 315 = .ok (.aload_n 0, 1) := by decide +kernel
theorem dL_tables_316 : decode (mC M_L_tables) 316 = .ok (.iconst 2, 1) := by decide +kernel
theorem dL_tables_317 : decode (mC M_L_tables) 317 = .ok (.iconst 1, 1) := by decide +kernel
theorem dL_tables_318 : decode (mC M_L_tables) 318 = .ok (.iconst 0, 1) := by decide +kernel
theorem dL_tables_319 : decode (mC M_L_tables) 319 = .ok (.iconst 0, 1) := by decide +kernel
theorem dL_tables_320 : decode (mC M_L_tables) 320 = .ok (.invokestatic 122, 3) := by decide +kernel
theorem dL_tables_323 : decode (mC M_L_tables) 323 = .ok (.iload_n 1, 1) := by decide +kernel
theorem dL_tables_324 : decode (mC M_L_tables) 324 = .ok (.if_icmp .ne 23, 3) := by decide +kernel
theorem dL_tables_327 : decode (mC M_L_tables) 327 = .ok (.aload_n 0, 1) := by decide +kernel
theorem dL_tables_328 : decode (mC M_L_tables) 328 = .ok (.iconst 4, 1) := by decide +kernel
theorem dL_tables_329 : decode (mC M_L_tables) 329 = .ok (.iconst 0, 1) := by decide +kernel
theorem dL_tables_330 : decode (mC M_L_tables) 330 = .ok (.iconst 0, 1) := by decide +kernel
theorem dL_tables_331 : decode (mC M_L_tables) 331 = .ok (.iconst 0, 1) := by decide +kernel
theorem dL_tables_332 : decode (mC M_L_tables) 332 = .ok (.invokestatic 122, 3) := by decide +kernel
theorem dL_tables_335 : decode (mC M_L_tables) 335 = .ok (.iload_n 1, 1) := by decide +kernel
theorem dL_tables_336 : decode (mC M_L_tables) 336 = .ok (.if_icmp .ne 11, 3) := by decide +kernel
theorem dL_tables_339 : decode (mC M_L_tables) 339 = .ok (.aload_n 0, 1) := by decide +kernel
theorem dL_tables_340 : decode (mC M_L_tables) 340 = .ok (.iconst 2, 1) := by decide +kernel
theorem dL_tables_341 : decode (mC M_L_tables) 341 = .ok (.invokestatic 132, 3) := by decide +kernel
theorem dL_tables_344 : decode (mC M_L_tables) 344 = .ok (.ifCond .ne 5, 3) := by decide +kernel
theorem dL_tables_347 : decode (mC M_L_tables) 347 = .ok (.iconst 0, 1) := by decide +kernel
theorem dL_tables_348 : decode (mC M_L_tables) 348 = .ok (.ireturn, 1) := by decide +kernel
theorem dL_tables_349 : decode (mC M_L_tables) 349 = .ok (.aload_n 0, 1) := by decide +kernel
theorem dL_tables_350 : decode (mC M_L_tables) 350 = .ok (.iconst 0, 1) := by decide +kernel
theorem dL_tables_351 : decode (mC M_L_tables) 351 = .ok (.invokevirtual 20, 3) := by decide +kernel
theorem dL_tables_354 : decode (mC M_L_tables) 354 = .ok (.bipush 20, 2) := by decide +kernel
theorem dL_tables_356 : decode (mC M_L_tables) 356 = .ok (.if_icmp .ne 341, 3) := by decide +kernel
theorem dL_tables_359 : decode (mC M_L_tables) 359 = .ok (.aload_n 0, 1) := by decide +kernel
theorem dL_tables_360 : decode (mC M_L_tables) 360 = .ok (.iconst 2, 1) := by decide +kernel
theorem dL_tables_361 : decode (mC M_L_tables) 361 = .ok (.bipush 20, 2) := by decide +kernel
theorem dL_tables_363 : decode (mC M_L_tables) 363 = .ok (.invokestatic 136, 3) := by decide +kernel
theorem dL_tables_366 : decode (mC M_L_tables) 366 = .ok (.ifCond .eq 331, 3) := by decide +kernel
theorem dL_tables_369 : decode (mC M_L_tables) 369 = .ok (.aload_n 0, 1) := by decide +kernel
theorem dL_tables_370 : decode (mC M_L_tables) 370 = .ok (.iconst 0, 1) := by decide +kernel
theorem dL_tables_371 : decode (mC M_L_tables) 371 = .ok (.invokevirtual 77, 3) := by decide +kernel
theorem dL_tables_374 : decode (mC M_L_tables) 374 = .ok (.iconst 1, 1) := by decide +kernel
theorem dL_tables_375 : decode (mC M_L_tables) 375 = .ok (.if_icmp .ne 322, 3) := by decide +kernel
theorem dL_tables_378 : decode (mC M_L_tables) 378 = .ok (.aload_n 0, 1) := by decide +kernel
theorem dL_tables_379 : decode (mC M_L_tables) 379 = .ok (.iconst 0, 1) := by decide +kernel
theorem dL_tables_380 : decode (mC M_L_tables) 380 = .ok (.invokevirtual 59, 3) := by decide +kernel
theorem dL_tables_383 : decode (mC M_L_tables) 383 = .ok (.iconst (-1), 1) := by decide +kernel
theorem dL_tables_384 : decode (mC M_L_tables) 384 = .ok (.if_icmp .ne 313, 3) := by decide +kernel
theorem dL_tables_387 : decode (mC M_L_tables) 387 = .ok (.aload_n 0, 1) := by decide +kernel
theorem dL_tables_388 : decode (mC M_L_tables) 388 = .ok (.iconst 0, 1) := by decide +kernel
theorem dL_tables_389 : decode (mC M_L_tables) 389 = .ok (.invokevirtual 49, 3) := by decide +kernel
theorem dL_tables_392 : decode (mC M_L_tables) 392 = .ok (.ifCond .ne 305, 3) := by decide +kernel
theorem dL_tables_395 : decode (mC M_L_tables) 395 = .ok (.aload_n 0, 1) := by decide +kernel
theorem dL_tables_396 : decode (mC M_L_tables) 396 = .ok (.iconst 0, 1) := by decide +kernel
theorem dL_tables_397 : decode (mC M_L_tables) 397 = .ok (.invokevirtual 53, 3) := by decide +kernel
theorem dL_tables_400 : decode (mC M_L_tables) 400 = .ok (.iconst (-1), 1) := by decide +kernel
theorem dL_tables_401 : decode (mC M_L_tables) 401 = .ok (.if_icmp .ne 296, 3) := by decide +kernel
theorem dL_tables_404 : decode (mC M_L_tables) 404 = .ok (.aload_n 0, 1) := by decide +kernel
theorem dL_tables_405 : decode (mC M_L_tables) 405 = .ok (.iconst 3, 1) := by decide +kernel
theorem dL_tables_406 : decode (mC M_L_tables) 406 = .ok (.iconst 0, 1) := by decide +kernel
theorem dL_tables_407 : decode (mC M_L_tables) 407 = .ok (.iconst 0, 1) := by decide +kernel
theorem dL_tables_408 : decode (mC M_L_tables) 408 = .ok (.iconst 0, 1) := by decide +kernel
theorem dL_tables_409 : decode (mC M_L_tables) 409 = .ok (.invokestatic 122, 3) := by decide +kernel
theorem dL_tables_412 : decode (mC M_L_tables) 412 = .ok (.iload_n 1, 1) := by decide +kernel
theorem dL_tables_413 : decode (mC M_L_tables) 413 = .ok (.if_icmp .ne 284, 3) := by decide +kernel
theorem dL_tables_416 : decode (mC M_L_tables) 416 = .ok (.aload_n 0, 1) := by decide +kernel
theorem dL_tables_417 : decode (mC M_L_tables) 417 = .ok (.iconst 1, 1) := by decide +kernel
theorem dL_tables_418 : decode (mC M_L_tables) 418 = .ok (.iconst 0, 1) := by decide +kernel
theorem dL_tables_419 : decode (mC M_L_tables) 419 = .ok (.iconst 2, 1) := by decide +kernel
theorem dL_tables_420 : decode (mC M_L_tables) 420 = .ok (.iconst 0, 1) := by decide +kernel
theorem dL_tables_421 : decode (mC M_L_tables) 421 = .ok (.invokestatic 122, 3) := by decide +kernel
theorem dL_tables_424 : decode (mC M_L_tables) 424 = .ok (.iload_n 1, 1) := by decide +kernel
theorem dL_tables_425 : decode (mC M_L_tables) 425 = .ok (.if_icmp .ne 272, 3) := by decide +kernel
theorem dL_tables_428 : decode (mC M_L_tables) 428 = .ok (.aload_n 0, 1) := by decide +kernel
theorem dL_tables_429 : decode (mC M_L_tables) 429 = .ok (.bipush 6, 2) := by decide +kernel
theorem dL_tables_431 : decode (mC M_L_tables) 431 = .ok (.iconst 0, 1) := by decide +kernel
theorem dL_tables_432 : decode (mC M_L_tables) 432 = .ok (.iconst 2, 1) := by decide +kernel
theorem dL_tables_433 : decode (mC M_L_tables) 433 = .ok (.iconst 3, 1) := by decide +kernel
theorem dL_tables_434 : decode (mC M_L_tables) 434 = .ok (.invokestatic 122, 3) := by decide +kernel
theorem dL_tables_437 : decode (mC M_L_tables) 437 = .ok (.iload_n 1, 1) := by decide +kernel
theorem dL_tables_438 : decode (mC M_L_tables) 438 = .ok (.if_icmp .ne 259, 3) := by decide +kernel
theorem dL_tables_441 : decode (mC M_L_tables) 441 = .ok (.aload_n 0, 1) := by decide +kernel
theorem dL_tables_442 : decode (mC M_L_tables) 442 = .ok (.bipush 8, 2) := by decide +kernel
theorem dL_tables_444 : decode (mC M_L_tables) 444 = .ok (.iconst 0, 1) := by decide +kernel
theorem dL_tables_445 : decode (mC M_L_tables) 445 = .ok (.iconst 2, 1) := by decide +kernel
theorem dL_tables_446 : decode (mC M_L_tables) 446 = .ok (.iconst 0, 1) := by decide +kernel
theorem dL_tables_447 : decode (mC M_L_tables) 447 = .ok (.invokestatic 122, 3) := by decide +kernel
theorem dL_tables_450 : decode (mC M_L_tables) 450 = .ok (.iload_n 1, 1) := by decide +kernel
theorem dL_tables_451 : decode (mC M_L_tables) 451 = .ok (.if_icmp .ne 246, 3) := by decide +kernel
theorem dL_tables_454 : decode (mC M_L_tables) 454 = .ok (.aload_n 0, 1) := by decide +kernel
theorem dL_tables_455 : decode (mC M_L_tables) 455 = .ok (.bipush 9, 2) := by decide +kernel
theorem dL_tables_457 : decode (mC M_L_tables) 457 = .ok (.iconst 0, 1) := by decide +kernel
theorem dL_tables_458 : decode (mC M_L_tables) 458 = .ok (.iconst 4, 1) := by decide +kernel
theorem dL_tables_459 : decode (mC M_L_tables) 459 = .ok (.iconst 2, 1) := by decide +kernel
theorem dL_tables_460 : decode (mC M_L_tables) 460 = .ok (.invokestatic 122, 3) := by decide +kernel
theorem dL_tables_463 : decode (mC M_L_tables) 463 = .ok (.iload_n 1, 1) := by decide +kernel
theorem dL_tables_464 : decode (mC M_L_tables) 464 = .ok (.if_icmp .ne 233, 3) := by decide +kernel
theorem dL_tables_467 : decode (mC M_L_tables) 467 = .ok (.aload_n 0, 1) := by decide +kernel
theorem dL_tables_468 : decode (mC M_L_tables) 468 = .ok (.iconst 2, 1) := by decide +kernel
theorem dL_tables_469 : decode (mC M_L_tables) 469 = .ok (.iconst 5, 1) := by decide +kernel
theorem dL_tables_470 : decode (mC M_L_tables) 470 = .ok (.invokevirtual 13, 3) := by decide +kernel
theorem dL_tables_473 : decode (mC M_L_tables) 473 = .ok (.iconst 1, 1) := by decide +kernel
theorem dL_tables_474 : decode (mC M_L_tables) 474 = .ok (.if_icmp .ne 223, 3) := by decide +kernel
theorem dL_tables_477 : decode (mC M_L_tables) 477 = .ok (.aload_n 0, 1) := by decide +kernel
theorem dL_tables_478 : decode (mC M_L_tables) 478 = .ok (.bipush 8, 2) := by decide +kernel
theorem dL_tables_480 : decode (mC M_L_tables) 480 = .ok (.iconst 0, 1) := by decide +kernel
theorem dL_tables_481 : decode (mC M_L_tables) 481 = .ok (.iconst 0, 1) := by decide +kernel
theorem dL_tables_482 : decode (mC M_L_tables) 482 = .ok (.iconst 0, 1) := by decide +kernel
theorem dL_tables_483 : decode (mC M_L_tables) 483 = .ok (.invokestatic 122, 3) := by decide +kernel
theorem dL_tables_486 : decode (mC M_L_tables) 486 = .ok (.iload_n 1, 1) := by decide +kernel
theorem dL_tables_487 : decode (mC M_L_tables) 487 = .ok (.if_icmp .ne 210, 3) := by decide +kernel
theorem dL_tables_490 : decode (mC M_L_tables) 490 = .ok (.aload_n 0, 1) := by decide +kernel
theorem dL_tables_491 : decode (mC M_L_tables) 491 = .ok (.iconst 0, 1) := by decide +kernel
theorem dL_tables_492 : decode (mC M_L_tables) 492 = .ok (.iconst 2, 1) := by decide +kernel
theorem dL_tables_493 : decode (mC M_L_tables) 493 = .ok (.invokevirtual 33, 3) := by decide +kernel
theorem dL_tables_496 : decode (mC M_L_tables) 496 = .ok (.iconst 2, 1) := by decide +kernel
theorem dL_tables_497 : decode (mC M_L_tables) 497 = .ok (.if_icmp .ne 200, 3) := by decide +kernel
theorem dL_tables_500 : decode (mC M_L_tables) 500 = .ok (.aload_n 0, 1) := by decide +kernel
theorem dL_tables_501 : decode (mC M_L_tables) 501 = .ok (.iconst 0, 1) := by decide +kernel
theorem dL_tables_502 : decode (mC M_L_tables) 502 = .ok (.invokevirtual 77, 3) := by decide +kernel
theorem dL_tables_505 : decode (mC M_L_tables) 505 = .ok (.ifCond .ne 192, 3) := by decide +kernel
theorem dL_tables_508 : decode (mC M_L_tables) 508 = .ok (.aload_n 0, 1) := by decide +kernel
theorem dL_tables_509 : decode (mC M_L_tables) 509 = .ok (.iconst 2, 1) := by decide +kernel
theorem dL_tables_510 : decode (mC M_L_tables) 510 = .ok (.invokevirtual 59, 3) := by decide +kernel
theorem dL_tables_513 : decode (mC M_L_tables) 513 = .ok (.ifCond .ne 184, 3) := by decide +kernel
theorem dL_tables_516 : decode (mC M_L_tables) 516 = .ok (.aload_n 0, 1) := by decide +kernel
theorem dL_tables_517 : decode (mC M_L_tables) 517 = .ok (.bipush 8, 2) := by decide +kernel
theorem dL_tables_519 : decode (mC M_L_tables) 519 = .ok (.iconst 0, 1) := by decide +kernel
theorem dL_tables_520 : decode (mC M_L_tables) 520 = .ok (.iconst 3, 1) := by decide +kernel
theorem dL_tables_521 : decode (mC M_L_tables) 521 = .ok (.iconst 0, 1) := by decide +kernel
theorem dL_tables_522 : decode (mC M_L_tables) 522 = .ok (.invokestatic 122, 3) := by decide +kernel
theorem dL_tables_525 : decode (mC M_L_tables) 525 = .ok (.iload_n 1, 1) := by decide +kernel
theorem dL_tables_526 : decode (mC M_L_tables) 526 = .ok (.if_icmp .ne 171, 3) := by decide +kernel
theorem dL_tables_529 : decode (mC M_L_tables) 529 = .ok (.aload_n 0, 1) := by decide +kernel
theorem dL_tables_530 : decode (mC M_L_tables) 530 = .ok (.iconst 1, 1) := by decide +kernel
theorem dL_tables_531 : decode (mC M_L_tables) 531 = .ok (.invokevirtual 20, 3) := by decide +kernel
theorem dL_tables_534 : decode (mC M_L_tables) 534 = .ok (.ifCond .ne 163, 3) := by decide +kernel
theorem dL_tables_537 : decode (mC M_L_tables) 537 = .ok (.aload_n 0, 1) := by decide +kernel
theorem dL_tables_538 : decode (mC M_L_tables) 538 = .ok (.iconst 1, 1) := by decide +kernel
theorem dL_tables_539 : decode (mC M_L_tables) 539 = .ok (.invokevirtual 77, 3) := by decide +kernel
theorem dL_tables_542 : decode (mC M_L_tables) 542 = .ok (.iconst 1, 1) := by decide +kernel
theorem dL_tables_543 : decode (mC M_L_tables) 543 = .ok (.if_icmp .ne 154, 3) := by decide +kernel
theorem dL_tables_546 : decode (mC M_L_tables) 546 = .ok (.aload_n 0, 1) := by decide +kernel
theorem dL_tables_547 : decode (mC M_L_tables) 547 = .ok (.bipush 8, 2) := by decide +kernel
theorem dL_tables_549 : decode (mC M_L_tables) 549 = .ok (.iconst 1, 1) := by decide +kernel
theorem dL_tables_550 : decode (mC M_L_tables) 550 = .ok (.iconst 2, 1) := by decide +kernel
theorem dL_tables_551 : decode (mC M_L_tables) 551 = .ok (.iconst 0, 1) := by decide +kernel
theorem dL_tables_552 : decode (mC M_L_tables) 552 = .ok (.invokestatic 122, 3) := by decide +kernel
theorem dL_tables_555 : decode (mC M_L_tables) 555 = .ok (.iload_n 1, 1) := by decide +kernel
theorem dL_tables_556 : decode (mC M_L_tables) 556 = .ok (.if_icmp .ne 141, 3) := by decide +kernel
theorem dL_tables_559 : decode (mC M_L_tables) 559 = .ok (.aload_n 0, 1) := by decide +kernel
theorem dL_tables_560 : decode (mC M_L_tables) 560 = .ok (.iconst 1, 1) := by decide +kernel
theorem dL_tables_561 : decode (mC M_L_tables) 561 = .ok (.iconst 3, 1) := by decide +kernel
theorem dL_tables_562 : decode (mC M_L_tables) 562 = .ok (.invokevirtual 33, 3) := by decide +kernel
theorem dL_tables_565 : decode (mC M_L_tables) 565 = .ok (.iconst 5, 1) := by decide +kernel
theorem dL_tables_566 : decode (mC M_L_tables) 566 = .ok (.if_icmp .ne 131, 3) := by decide +kernel
theorem dL_tables_569 : decode (mC M_L_tables) 569 = .ok (.aload_n 0, 1) := by decide +kernel
theorem dL_tables_570 : decode (mC M_L_tables) 570 = .ok (.iconst 0, 1) := by decide +kernel
theorem dL_tables_571 : decode (mC M_L_tables) 571 = .ok (.invokevirtual 23, 3) := by decide +kernel
theorem dL_tables_574 : decode (mC M_L_tables) 574 = .ok (.iconst 3, 1) := by decide +kernel
theorem dL_tables_575 : decode (mC M_L_tables) 575 = .ok (.if_icmp .ne 122, 3) := by decide +kernel
theorem dL_tables_578 : decode (mC M_L_tables) 578 = .ok (.aload_n 0, 1) := by decide +kernel
theorem dL_tables_579 : decode (mC M_L_tables) 579 = .ok (.iconst 4, 1) := by decide +kernel
theorem dL_tables_580 : decode (mC M_L_tables) 580 = .ok (.iconst 0, 1) := by decide +kernel
theorem dL_tables_581 : decode (mC M_L_tables) 581 = .ok (.iconst 0, 1) := by decide +kernel
theorem dL_tables_582 : decode (mC M_L_tables) 582 = .ok (.iconst 0, 1) := by decide +kernel
theorem dL_tables_583 : decode (mC M_L_tables) 583 = .ok (.invokestatic 122, 3) := by decide +kernel
theorem dL_tables_586 : decode (mC M_L_tables) 586 = .ok (.iload_n 1, 1) := by decide +kernel
theorem dL_tables_587 : decode (mC M_L_tables) 587 = .ok (.if_icmp .ne 110, 3) := by decide +kernel
theorem dL_tables_590 : decode (mC M_L_tables) 590 = .ok (.aload_n 0, 1) := by decide +kernel
theorem dL_tables_591 : decode (mC M_L_tables) 591 = .ok (.iconst 0, 1) := by decide +kernel
theorem dL_tables_592 : decode (mC M_L_tables) 592 = .ok (.invokevirtual 7, 3) := by decide +kernel
theorem dL_tables_595 : decode (mC M_L_tables) 595 = .ok (.bipush 10, 2) := by decide +kernel
theorem dL_tables_597 : decode (mC M_L_tables) 597 = .ok (.if_icmp .ne 100, 3) := by decide +kernel
theorem dL_tables_600 : decode (mC M_L_tables) 600 = .ok (.aload_n 0, 1) := by decide +kernel
theorem dL_tables_601 : decode (mC M_L_tables) 601 = .ok (.iconst 1, 1) := by decide +kernel
theorem dL_tables_602 : decode (mC M_L_tables) 602 = .ok (.invokevirtual 26, 3) := by decide +kernel
theorem dL_tables_605 : decode (mC M_L_tables) 605 = .ok (.iconst 1, 1) := by decide +kernel
theorem dL_tables_606 : decode (mC M_L_tables) 606 = .ok (.if_icmp .ne 91, 3) := by decide +kernel
theorem dL_tables_609 : decode (mC M_L_tables) 609 = .ok (.aload_n 0, 1) := by decide +kernel
theorem dL_tables_610 : decode (mC M_L_tables) 610 = .ok (.iconst 2, 1) := by decide +kernel
theorem dL_tables_611 : decode (mC M_L_tables) 611 = .ok (.invokevirtual 56, 3) := by decide +kernel
theorem dL_tables_614 : decode (mC M_L_tables) 614 = .ok (.iconst 1, 1) := by decide +kernel
theorem dL_tables_615 : decode (mC M_L_tables) 615 = .ok (.if_icmp .ne 82, 3) := by decide +kernel
theorem dL_tables_618 : decode (mC M_L_tables) 618 = .ok (.aload_n 0, 1) := by decide +kernel
theorem dL_tables_619 : decode (mC M_L_tables) 619 = .ok (.iconst 2, 1) := by decide +kernel
theorem dL_tables_620 : decode (mC M_L_tables) 620 = .ok (.invokevirtual 17, 3) := by decide +kernel
theorem dL_tables_623 : decode (mC M_L_tables) 623 = .ok (.ifCond .ne 74, 3) := by decide +kernel
theorem dL_tables_626 : decode (mC M_L_tables) 626 = .ok (.aload_n 0, 1) := by decide +kernel
theorem dL_tables_627 : decode (mC M_L_tables) 627 = .ok (.iconst 0, 1) := by decide +kernel
theorem dL_tables_628 : decode (mC M_L_tables) 628 = .ok (.invokevirtual 77, 3) := by decide +kernel
theorem dL_tables_631 : decode (mC M_L_tables) 631 = .ok (.iconst 1, 1) := by decide +kernel
theorem dL_tables_632 : decode (mC M_L_tables) 632 = .ok (.if_icmp .ne 65, 3) := by decide +kernel
theorem dL_tables_635 : decode (mC M_L_tables) 635 = .ok (.aload_n 0, 1) := by decide +kernel
theorem dL_tables_636 : decode (mC M_L_tables) 636 = .ok (.iconst 5, 1) := by decide +kernel
theorem dL_tables_637 : decode (mC M_L_tables) 637 = .ok (.iconst 0, 1) := by decide +kernel
theorem dL_tables_638 : decode (mC M_L_tables) 638 = .ok (.invokestatic 136, 3) := by decide +kernel
theorem dL_tables_641 : decode (mC M_L_tables) 641 = .ok (.ifCond .eq 56, 3) := by decide +kernel
theorem dL_tables_644 : decode (mC M_L_tables) 644 = .ok (.aload_n 0, 1) := by decide +kernel
theorem dL_tables_645 : decode (mC M_L_tables) 645 = .ok (.iconst 3, 1) := by decide +kernel
theorem dL_tables_646 : decode (mC M_L_tables) 646 = .ok (.iconst 0, 1) := by decide +kernel
theorem dL_tables_647 : decode (mC M_L_tables) 647 = .ok (.invokevirtual 13, 3) := by decide +kernel
theorem dL_tables_650 : decode (mC M_L_tables) 650 = .ok (.iconst 1, 1) := by decide +kernel
theorem dL_tables_651 : decode (mC M_L_tables) 651 = .ok (.if_icmp .ne 46, 3) := by decide +kernel
theorem dL_tables_654 : decode (mC M_L_tables) 654 = .ok (.aload_n 0, 1) := by decide +kernel
theorem dL_tables_655 : decode (mC M_L_tables) 655 = .ok (.bipush 10, 2) := by decide +kernel
theorem dL_tables_657 : decode (mC M_L_tables) 657 = .ok (.invokevirtual 26, 3) := by decide +kernel
theorem dL_tables_660 : decode (mC M_L_tables) 660 = .ok (.ifCond .ne 37, 3) := by decide +kernel
theorem dL_tables_663 : decode (mC M_L_tables) 663 = .ok (.aload_n 0, 1) := by decide +kernel
theorem dL_tables_664 : decode (mC M_L_tables) 664 = .ok (.iconst 3, 1) := by decide +kernel
theorem dL_tables_665 : decode (mC M_L_tables) 665 = .ok (.invokevirtual 56, 3) := by decide +kernel
theorem dL_tables_668 : decode (mC M_L_tables) 668 = .ok (.ifCond .ne 29, 3) := by decide +kernel
theorem dL_tables_671 : decode (mC M_L_tables) 671 = .ok (.aload_n 0, 1) := by decide +kernel
theorem dL_tables_672 : decode (mC M_L_tables) 672 = .ok (.bipush 50, 2) := by decide +kernel
theorem dL_tables_674 : decode (mC M_L_tables) 674 = .ok (.invokevirtual 7, 3) := by decide +kernel
theorem dL_tables_677 : decode (mC M_L_tables) 677 = .ok (.ifCond .ne 20, 3) := by decide +kernel
theorem dL_tables_680 : decode (mC M_L_tables) 680 = .ok (.aload_n 0, 1) := by decide +kernel
theorem dL_tables_681 : decode (mC M_L_tables) 681 = .ok (.iconst 3, 1) := by decide +kernel
theorem dL_tables_682 : decode (mC M_L_tables) 682 = .ok (.invokevirtual 17, 3) := by decide +kernel
theorem dL_tables_685 : decode (mC M_L_tables) 685 = .ok (.ifCond .ne 12, 3) := by decide +kernel
theorem dL_tables_688 : decode (mC M_L_tables) 688 = .ok (.aload_n 0, 1) := by decide +kernel
theorem dL_tables_689 : decode (mC M_L_tables) 689 = .ok (.iconst 3, 1) := by decide +kernel
theorem dL_tables_690 : decode (mC M_L_tables) 690 = .ok (.invokevirtual 59, 3) := by decide +kernel
theorem dL_tables_693 : decode (mC M_L_tables) 693 = .ok (.iconst 1, 1) := by decide +kernel
theorem dL_tables_694 : decode (mC M_L_tables) 694 = .ok (.if_icmp .eq 5, 3) := by decide +kernel
theorem dL_tables_697 : decode (mC M_L_tables) 697 = .ok (.iconst 0, 1) := by decide +kernel
theorem dL_tables_698 : decode (mC M_L_tables) 698 = .ok (.ireturn, 1) := by decide +kernel
theorem dL_tables_699 : decode (mC M_L_tables) 699 = .ok (.aload_n 0, 1) := by decide +kernel
theorem dL_tables_700 : decode (mC M_L_tables) 700 = .ok (.iconst 0, 1) := by decide +kernel
theorem dL_tables_701 : decode (mC M_L_tables) 701 = .ok (.iconst 2, 1) := by decide +kernel
theorem dL_tables_702 : decode (mC M_L_tables) 702 = .ok (.invokevirtual 13, 3) := by decide +kernel
theorem dL_tables_705 : decode (mC M_L_tables) 705 = .ok (.iconst 1, 1) := by decide +kernel
theorem dL_tables_706 : decode (mC M_L_tables) 706 = .ok (.if_icmp .ne 126, 3) := by decide +kernel
theorem dL_tables_709 : decode (mC M_L_tables) 709 = .ok (.aload_n 0, 1) := by decide +kernel
theorem dL_tables_710 : decode (mC M_L_tables) 710 = .ok (.iconst 0, 1) := by decide +kernel
theorem dL_tables_711 : decode (mC M_L_tables) 711 = .ok (.iconst 0, 1) := by decide +kernel
theorem dL_tables_712 : decode (mC M_L_tables) 712 = .ok (.invokevirtual 33, 3) := by decide +kernel
theorem dL_tables_715 : decode (mC M_L_tables) 715 = .ok (.iconst 2, 1) := by decide +kernel
theorem dL_tables_716 : decode (mC M_L_tables) 716 = .ok (.if_icmp .ne 116, 3) := by decide +kernel
theorem dL_tables_719 : decode (mC M_L_tables) 719 = .ok (.aload_n 0, 1) := by decide +kernel
theorem dL_tables_720 : decode (mC M_L_tables) 720 = .ok (.iconst 1, 1) := by decide +kernel
theorem dL_tables_721 : decode (mC M_L_tables) 721 = .ok (.invokevirtual 26, 3) := by decide +kernel
theorem dL_tables_724 : decode (mC M_L_tables) 724 = .ok (.iconst 1, 1) := by decide +kernel
theorem dL_tables_725 : decode (mC M_L_tables) 725 = .ok (.if_icmp .ne 107, 3) := by decide +kernel
theorem dL_tables_728 : decode (mC M_L_tables) 728 = .ok (.aload_n 0, 1) := by decide +kernel
theorem dL_tables_729 : decode (mC M_L_tables) 729 = .ok (.iconst 0, 1) := by decide +kernel
theorem dL_tables_730 : decode (mC M_L_tables) 730 = .ok (.invokevirtual 17, 3) := by decide +kernel
theorem dL_tables_733 : decode (mC M_L_tables) 733 = .ok (.bipush 50, 2) := by decide +kernel
theorem dL_tables_735 : decode (mC M_L_tables) 735 = .ok (.if_icmp .ne 97, 3) := by decide +kernel
theorem dL_tables_738 : decode (mC M_L_tables) 738 = .ok (.aload_n 0, 1) := by decide +kernel
theorem dL_tables_739 : decode (mC M_L_tables) 739 = .ok (.iconst 2, 1) := by decide +kernel
theorem dL_tables_740 : decode (mC M_L_tables) 740 = .ok (.bipush 70, 2) := by decide +kernel
theorem dL_tables_742 : decode (mC M_L_tables) 742 = .ok (.invokestatic 136, 3) := by decide +kernel
theorem dL_tables_745 : decode (mC M_L_tables) 745 = .ok (.ifCond .eq 87, 3) := by decide +kernel
theorem dL_tables_748 : decode (mC M_L_tables) 748 = .ok (.aload_n 0, 1) := by decide +kernel
theorem dL_tables_749 : decode (mC M_L_tables) 749 = .ok (.iconst 0, 1) := by decide +kernel
theorem dL_tables_750 : decode (mC M_L_tables) 750 = .ok (.invokevirtual 77, 3) := by decide +kernel
theorem dL_tables_753 : decode (mC M_L_tables) 753 = .ok (.iconst 1, 1) := by decide +kernel
theorem dL_tables_754 : decode (mC M_L_tables) 754 = .ok (.if_icmp .ne 78, 3) := by decide +kernel
theorem dL_tables_757 : decode (mC M_L_tables) 757 = .ok (.aload_n 0, 1) := by decide +kernel
theorem dL_tables_758 : decode (mC M_L_tables) 758 = .ok (.iconst 2, 1) := by decide +kernel
theorem dL_tables_759 : decode (mC M_L_tables) 759 = .ok (.bipush 7, 2) := by decide +kernel
theorem dL_tables_761 : decode (mC M_L_tables) 761 = .ok (.invokevirtual 13, 3) := by decide +kernel
theorem dL_tables_764 : decode (mC M_L_tables) 764 = .ok (.iconst 1, 1) := by decide +kernel
theorem dL_tables_765 : decode (mC M_L_tables) 765 = .ok (.if_icmp .ne 67, 3) := by decide +kernel
theorem dL_tables_768 : decode (mC M_L_tables) 768 = .ok (.aload_n 0, 1) := by decide +kernel
theorem dL_tables_769 : decode (mC M_L_tables) 769 = .ok (.sipush 200, 3) := by decide +kernel
theorem dL_tables_772 : decode (mC M_L_tables) 772 = .ok (.invokevirtual 26, 3) := by decide +kernel
theorem dL_tables_775 : decode (mC M_L_tables) 775 = .ok (.sipush 200, 3) := by decide +kernel
theorem dL_tables_778 : decode (mC M_L_tables) 778 = .ok (.if_icmp .ne 54, 3) := by decide +kernel
theorem dL_tables_781 : decode (mC M_L_tables) 781 = .ok (.aload_n 0, 1) := by decide +kernel
theorem dL_tables_782 : decode (mC M_L_tables) 782 = .ok (.iconst 1, 1) := by decide +kernel
theorem dL_tables_783 : decode (mC M_L_tables) 783 = .ok (.invokevirtual 26, 3) := by decide +kernel
theorem dL_tables_786 : decode (mC M_L_tables) 786 = .ok (.iconst 1, 1) := by decide +kernel
theorem dL_tables_787 : decode (mC M_L_tables) 787 = .ok (.if_icmp .ne 45, 3) := by decide +kernel
theorem dL_tables_790 : decode (mC M_L_tables) 790 = .ok (.aload_n 0, 1) := by decide +kernel
theorem dL_tables_791 : decode (mC M_L_tables) 791 = .ok (.iconst 2, 1) := by decide +kernel
theorem dL_tables_792 : decode (mC M_L_tables) 792 = .ok (.invokevirtual 56, 3) := by decide +kernel
theorem dL_tables_795 : decode (mC M_L_tables) 795 = .ok (.sipush 201, 3) := by decide +kernel
theorem dL_tables_798 : decode (mC M_L_tables) 798 = .ok (.if_icmp .ne 34, 3) := by decide +kernel
theorem dL_tables_801 : decode (mC M_L_tables) 801 = .ok (.aload_n 0, 1) := by decide +kernel
theorem dL_tables_802 : decode (mC M_L_tables) 802 = .ok (.iconst 2, 1) := by decide +kernel
theorem dL_tables_803 : decode (mC M_L_tables) 803 = .ok (.invokevirtual 17, 3) := by decide +kernel
theorem dL_tables_806 : decode (mC M_L_tables) 806 = .ok (.sipush 1050, 3) := by decide +kernel
theorem dL_tables_809 : decode (mC M_L_tables) 809 = .ok (.if_icmp .ne 23, 3) := by decide +kernel
theorem dL_tables_812 : decode (mC M_L_tables) 812 = .ok (.aload_n 0, 1) := by decide +kernel
theorem dL_tables_813 : decode (mC M_L_tables) 813 = .ok (.bipush 7, 2) := by decide +kernel
theorem dL_tables_815 : decode (mC M_L_tables) 815 = .ok (.sipush 1050, 3) := by decide +kernel
theorem dL_tables_818 : decode (mC M_L_tables) 818 = .ok (.invokestatic 136, 3) := by decide +kernel
theorem dL_tables_821 : decode (mC M_L_tables) 821 = .ok (.ifCond .eq 11, 3) := by decide +kernel
theorem dL_tables_824 : decode (mC M_L_tables) 824 = .ok (.aload_n 0, 1) := by decide +kernel
theorem dL_tables_825 : decode (mC M_L_tables) 825 = .ok (.iconst 2, 1) := by decide +kernel
theorem dL_tables_826 : decode (mC M_L_tables) 826 = .ok (.invokestatic 132, 3) := by decide +kernel
theorem dL_tables_829 : decode (mC M_L_tables) 829 = .ok (.ifCond .ne 5, 3) := by decide +kernel
theorem dL_tables_832 : decode (mC M_L_tables) 832 = .ok (.iconst 0, 1) := by decide +kernel
theorem dL_tables_833 : decode (mC M_L_tables) 833 = .ok (.ireturn, 1) := by decide +kernel
theorem dL_tables_834 : decode (mC M_L_tables) 834 = .ok (.iconst 2, 1) := by decide +kernel
theorem dL_tables_835 : decode (mC M_L_tables) 835 = .ok (.istore_n 2, 1) := by decide +kernel
theorem dL_tables_836 : decode (mC M_L_tables) 836 = .ok (.iload_n 2, 1) := by decide +kernel
theorem dL_tables_837 : decode (mC M_L_tables) 837 = .ok (.bipush 21, 2) := by decide +kernel
theorem dL_tables_839 : decode (mC M_L_tables) 839 = .ok (.if_icmp .ge 70, 3) := by decide +kernel
theorem dL_tables_842 : decode (mC M_L_tables) 842 = .ok (.aload_n 0, 1) := by decide +kernel
theorem dL_tables_843 : decode (mC M_L_tables) 843 = .ok (.bipush 6, 2) := by decide +kernel
theorem dL_tables_845 : decode (mC M_L_tables) 845 = .ok (.iconst 0, 1) := by decide +kernel
theorem dL_tables_846 : decode (mC M_L_tables) 846 = .ok (.iload_n 2, 1) := by decide +kernel
theorem dL_tables_847 : decode (mC M_L_tables) 847 = .ok (.bipush 7, 2) := by decide +kernel
theorem dL_tables_849 : decode (mC M_L_tables) 849 = .ok (.irem, 1) := by decide +kernel
theorem dL_tables_850 : decode (mC M_L_tables) 850 = .ok (.bipush 7, 2) := by decide +kernel
theorem dL_tables_852 : decode (mC M_L_tables) 852 = .ok (.invokestatic 122, 3) := by decide +kernel
theorem dL_tables_855 : decode (mC M_L_tables) 855 = .ok (.iload_n 2, 1) := by decide +kernel
theorem dL_tables_856 : decode (mC M_L_tables) 856 = .ok (.bipush 20, 2) := by decide +kernel
theorem dL_tables_858 : decode (mC M_L_tables) 858 = .ok (.if_icmp .ge 7, 3) := by decide +kernel
theorem dL_tables_861 : decode (mC M_L_tables) 861 = .ok (.iload_n 2, 1) := by decide +kernel
theorem dL_tables_862 : decode (mC M_L_tables) 862 = .ok (.goto 4, 3) := by decide +kernel
theorem dL_tables_865 : decode (mC M_L_tables) 865 = .ok (.iload_n 1, 1) := by decide +kernel
theorem dL_tables_866 : decode (mC M_L_tables) 866 = .ok (.if_icmp .ne 35, 3) := by decide +kernel
theorem dL_tables_869 : decode (mC M_L_tables) 869 = .ok (.iload_n 2, 1) := by decide +kernel
theorem dL_tables_870 : decode (mC M_L_tables) 870 = .ok (.bipush 20, 2) := by decide +kernel
theorem dL_tables_872 : decode (mC M_L_tables) 872 = .ok (.if_icmp .ge 31, 3) := by decide +kernel
theorem dL_tables_875 : decode (mC M_L_tables) 875 = .ok (.aload_n 0, 1) := by decide +kernel
theorem dL_tables_876 : decode (mC M_L_tables) 876 = .ok (.iconst 0, 1) := by decide +kernel
theorem dL_tables_877 : decode (mC M_L_tables) 877 = .ok (.invokevirtual 20, 3) := by decide +kernel
theorem dL_tables_880 : decode (mC M_L_tables) 880 = .ok (.ifCond .ne 21, 3) := by decide +kernel
theorem dL_tables_883 : decode (mC M_L_tables) 883 = .ok (.aload_n 0, 1) := by decide +kernel
theorem dL_tables_884 : decode (mC M_L_tables) 884 = .ok (.iconst 0, 1) := by decide +kernel
theorem dL_tables_885 : decode (mC M_L_tables) 885 = .ok (.invokevirtual 23, 3) := by decide +kernel
theorem dL_tables_888 : decode (mC M_L_tables) 888 = .ok (.iconst 3, 1) := by decide +kernel
theorem dL_tables_889 : decode (mC M_L_tables) 889 = .ok (.if_icmp .ne 12, 3) := by decide +kernel
theorem dL_tables_892 : decode (mC M_L_tables) 892 = .ok (.aload_n 0, 1) := by decide +kernel
theorem dL_tables_893 : decode (mC M_L_tables) 893 = .ok (.iload_n 2, 1) := by decide +kernel
theorem dL_tables_894 : decode (mC M_L_tables) 894 = .ok (.invokevirtual 77, 3) := by decide +kernel
theorem dL_tables_897 : decode (mC M_L_tables) 897 = .ok (.iconst 1, 1) := by decide +kernel
theorem dL_tables_898 : decode (mC M_L_tables) 898 = .ok (.if_icmp .eq 5, 3) := by decide +kernel
theorem dL_tables_901 : decode (mC M_L_tables) 901 = .ok (.iconst 0, 1) := by decide +kernel
theorem dL_tables_902 : decode (mC M_L_tables) 902 = .ok (.ireturn, 1) := by decide +kernel
theorem dL_tables_903 : decode (mC M_L_tables) 903 = .ok (.iinc 2 1, 3) := by decide +kernel
theorem dL_tables_906 : decode (mC M_L_tables) 906 = .ok (.goto (-70), 3) := by decide +kernel
theorem dL_tables_909 : decode (mC M_L_tables) 909 = .ok (.iconst 0, 1) := by decide +kernel
theorem dL_tables_910 : decode (mC M_L_tables) 910 = .ok (.istore_n 2, 1) := by decide +kernel
theorem dL_tables_911 : decode (mC M_L_tables) 911 = .ok (.iload_n 2, 1) := by decide +kernel
theorem dL_tables_912 : decode (mC M_L_tables) 912 = .ok (.bipush 48, 2) := by decide +kernel
theorem dL_tables_914 : decode (mC M_L_tables) 914 = .ok (.if_icmp .ge 21, 3) := by decide +kernel
theorem dL_tables_917 : decode (mC M_L_tables) 917 = .ok (.aload_n 0, 1) := by decide +kernel
theorem dL_tables_918 : decode (mC M_L_tables) 918 = .ok (.sipush 200, 3) := by decide +kernel
theorem dL_tables_921 : decode (mC M_L_tables) 921 = .ok (.invokevirtual 26, 3) := by decide +kernel
theorem dL_tables_924 : decode (mC M_L_tables) 924 = .ok (.ifCond .eq 5, 3) := by decide +kernel
theorem dL_tables_927 : decode (mC M_L_tables) 927 = .ok (.iconst 0, 1) := by decide +kernel
theorem dL_tables_928 : decode (mC M_L_tables) 928 = .ok (.ireturn, 1) := by decide +kernel
theorem dL_tables_929 : decode (mC M_L_tables) 929 = .ok (.iinc 2 1, 3) := by decide +kernel
theorem dL_tables_932 : decode (mC M_L_tables) 932 = .ok (.goto (-21), 3) := by decide +kernel
theorem dL_tables_935 : decode (mC M_L_tables) 935 = .ok (.aload_n 0, 1) := by decide +kernel
theorem dL_tables_936 : decode (mC M_L_tables) 936 = .ok (.invokevirtual 117, 3) := by decide +kernel
theorem dL_tables_939 : decode (mC M_L_tables) 939 = .ok (.sipush 9833, 3) := by decide +kernel
theorem dL_tables_942 : decode (mC M_L_tables) 942 = .ok (.if_icmp .ne 52, 3) := by decide +kernel
theorem dL_tables_945 : decode (mC M_L_tables) 945 = .ok (.aload_n 0, 1) := by decide +kernel
theorem dL_tables_946 : decode (mC M_L_tables) 946 = .ok (.iconst 5, 1) := by decide +kernel
theorem dL_tables_947 : decode (mC M_L_tables) 947 = .ok (.sipush 168, 3) := by decide +kernel
theorem dL_tables_950 : decode (mC M_L_tables) 950 = .ok (.iconst 0, 1) := by decide +kernel
theorem dL_tables_951 : decode (mC M_L_tables) 951 = .ok (.iconst 0, 1) := by decide +kernel
theorem dL_tables_952 : decode (mC M_L_tables) 952 = .ok (.invokestatic 122, 3) := by decide +kernel
theorem dL_tables_955 : decode (mC M_L_tables) 955 = .ok (.iload_n 1, 1) := by decide +kernel
theorem dL_tables_956 : decode (mC M_L_tables) 956 = .ok (.if_icmp .ne 38, 3) := by decide +kernel
theorem dL_tables_959 : decode (mC M_L_tables) 959 = .ok (.aload_n 0, 1) := by decide +kernel
theorem dL_tables_960 : decode (mC M_L_tables) 960 = .ok (.sipush 167, 3) := by decide +kernel
theorem dL_tables_963 : decode (mC M_L_tables) 963 = .ok (.invokevirtual 26, 3) := by decide +kernel
theorem dL_tables_966 : decode (mC M_L_tables) 966 = .ok (.ifCond .ne 28, 3) := by decide +kernel
theorem dL_tables_969 : decode (mC M_L_tables) 969 = .ok (.aload_n 0, 1) := by decide +kernel
theorem dL_tables_970 : decode (mC M_L_tables) 970 = .ok (.iconst 5, 1) := by decide +kernel
theorem dL_tables_971 : decode (mC M_L_tables) 971 = .ok (.iconst 1, 1) := by decide +kernel
theorem dL_tables_972 : decode (mC M_L_tables) 972 = .ok (.iconst 0, 1) := by decide +kernel
theorem dL_tables_973 : decode (mC M_L_tables) 973 = .ok (.iconst 0, 1) := by decide +kernel
theorem dL_tables_974 : decode (mC M_L_tables) 974 = .ok (.invokestatic 122, 3) := by decide +kernel
theorem dL_tables_977 : decode (mC M_L_tables) 977 = .ok (.iload_n 1, 1) := by decide +kernel
theorem dL_tables_978 : decode (mC M_L_tables) 978 = .ok (.if_icmp .ne 16, 3) := by decide +kernel
theorem dL_tables_981 : decode (mC M_L_tables) 981 = .ok (.aload_n 0, 1) := by decide +kernel
theorem dL_tables_982 : decode (mC M_L_tables) 982 = .ok (.bipush 20, 2) := by decide +kernel
theorem dL_tables_984 : decode (mC M_L_tables) 984 = .ok (.invokestatic 132, 3) := by decide +kernel
theorem dL_tables_987 : decode (mC M_L_tables) 987 = .ok (.ifCond .eq 7, 3) := by decide +kernel
theorem dL_tables_990 : decode (mC M_L_tables) 990 = .ok (.iconst 1, 1) := by decide +kernel
theorem dL_tables_991 : decode (mC M_L_tables) 991 = .ok (.goto 4, 3) := by decide +kernel
theorem dL_tables_994 : decode (mC M_L_tables) 994 = .ok (.iconst 0, 1) := by decide +kernel
theorem dL_tables_995 : decode (mC M_L_tables) 995 = .ok (.ireturn, 1) := by decide +kernel
theorem dL_bed_0 : decode (mC M_L_bed) 0 = .ok (.aload_n 0, 1) := by decide +kernel
theorem dL_bed_1 : decode (mC M_L_bed) 1 = .ok (.iload_n 1, 1) := by decide +kernel
theorem dL_bed_2 : decode (mC M_L_bed) 2 = .ok (.iconst 0, 1) := by decide +kernel
theorem dL_bed_3 : decode (mC M_L_bed) 3 = .ok (.invokevirtual 96, 3) := by decide +kernel
theorem dL_bed_6 : decode (mC M_L_bed) 6 = .ok (.iload_n 2, 1) := by decide +kernel
theorem dL_bed_7 : decode (mC M_L_bed) 7 = .ok (.if_icmp .ne 85, 3) := by decide +kernel
theorem dL_bed_10 : decode (mC M_L_bed) 10 = .ok (.aload_n 0, 1) := by decide +kernel
theorem dL_bed_11 : decode (mC M_L_bed) 11 = .ok (.iload_n 1, 1) := by decide +kernel
theorem dL_bed_12 : decode (mC M_L_bed) 12 = .ok (.iconst 1, 1) := by decide +kernel
theorem dL_bed_13 : decode (mC M_L_bed) 13 = .ok (.invokevirtual 96, 3) := by decide +kernel
theorem dL_bed_16 : decode (mC M_L_bed) 16 = .ok (.iload_n 3, 1) := by decide +kernel
theorem dL_bed_17 : decode (mC M_L_bed) 17 = .ok (.if_icmp .ne 75, 3) := by decide +kernel
theorem dL_bed_20 : decode (mC M_L_bed) 20 = .ok (.aload_n 0, 1) := by decide +kernel
theorem dL_bed_21 : decode (mC M_L_bed) 21 = .ok (.iload_n 1, 1) := by decide +kernel
theorem dL_bed_22 : decode (mC M_L_bed) 22 = .ok (.iconst 2, 1) := by decide +kernel
theorem dL_bed_23 : decode (mC M_L_bed) 23 = .ok (.invokevirtual 96, 3) := by decide +kernel
theorem dL_bed_26 : decode (mC M_L_bed) 26 = .ok (.iload 4, 2) := by decide +kernel
theorem dL_bed_28 : decode (mC M_L_bed) 28 = .ok (.if_icmp .ne 64, 3) := by decide +kernel
theorem dL_bed_31 : decode (mC M_L_bed) 31 = .ok (.aload_n 0, 1) := by decide +kernel
theorem dL_bed_32 : decode (mC M_L_bed) 32 = .ok (.iload_n 1, 1) := by decide +kernel
theorem dL_bed_33 : decode (mC M_L_bed) 33 = .ok (.iconst 3, 1) := by decide +kernel
theorem dL_bed_34 : decode (mC M_L_bed) 34 = .ok (.invokevirtual 96, 3) := by decide +kernel
theorem dL_bed_37 : decode (mC M_L_bed) 37 = .ok (.iload 5, 2) := by decide +kernel
theorem dL_bed_39 : decode (mC M_L_bed) 39 = .ok (.if_icmp .ne 53, 3) := by decide +kernel
theorem dL_bed_42 : decode (mC M_L_bed) 42 = .ok (.aload_n 0, 1) := by decide +kernel
theorem dL_bed_43 : decode (mC M_L_bed) 43 = .ok (.iload_n 1, 1) := by decide +kernel
theorem dL_bed_44 : decode (mC M_L_bed) 44 = .ok (.iconst 4, 1) := by decide +kernel
theorem dL_bed_45 : decode (mC M_L_bed) 45 = .ok (.invokevirtual 96, 3) := by decide +kernel
theorem dL_bed_48 : decode (mC M_L_bed) 48 = .ok (.bipush 44, 2) := by decide +kernel
theorem dL_bed_50 : decode (mC M_L_bed) 50 = .ok (.if_icmp .ne 42, 3) := by decide +kernel
theorem dL_bed_53 : decode (mC M_L_bed) 53 = .ok (.aload_n 0, 1) := by decide +kernel
theorem dL_bed_54 : decode (mC M_L_bed) 54 = .ok (.iload_n 1, 1) := by decide +kernel
theorem dL_bed_55 : decode (mC M_L_bed) 55 = .ok (.iconst 5, 1) := by decide +kernel
theorem dL_bed_56 : decode (mC M_L_bed) 56 = .ok (.invokevirtual 96, 3) := by decide +kernel
theorem dL_bed_59 : decode (mC M_L_bed) 59 = .ok (.iload 6, 2) := by decide +kernel
theorem dL_bed_61 : decode (mC M_L_bed) 61 = .ok (.if_icmp .ne 31, 3) := by decide +kernel
theorem dL_bed_64 : decode (mC M_L_bed) 64 = .ok (.aload_n 0, 1) := by decide +kernel
theorem dL_bed_65 : decode (mC M_L_bed) 65 = .ok (.iload_n 1, 1) := by decide +kernel
theorem dL_bed_66 : decode (mC M_L_bed) 66 = .ok (.bipush 6, 2) := by decide +kernel
theorem dL_bed_68 : decode (mC M_L_bed) 68 = .ok (.invokevirtual 96, 3) := by decide +kernel
theorem dL_bed_71 : decode (mC M_L_bed) 71 = .ok (.bipush 108, 2) := by decide +kernel
theorem dL_bed_73 : decode (mC M_L_bed) 73 = .ok (.if_icmp .ne 19, 3) := by decide +kernel
theorem dL_bed_76 : decode (mC M_L_bed) 76 = .ok (.aload_n 0, 1) := by decide +kernel
theorem dL_bed_77 : decode (mC M_L_bed) 77 = .ok (.iload_n 1, 1) := by decide +kernel
theorem dL_bed_78 : decode (mC M_L_bed) 78 = .ok (.bipush 7, 2) := by decide +kernel
theorem dL_bed_80 : decode (mC M_L_bed) 80 = .ok (.invokevirtual 96, 3) := by decide +kernel
theorem dL_bed_83 : decode (mC M_L_bed) 83 = .ok (.iload 7, 2) := by decide +kernel
theorem dL_bed_85 : decode (mC M_L_bed) 85 = .ok (.if_icmp .ne 7, 3) := by decide +kernel
theorem dL_bed_88 : decode (mC M_L_bed) 88 = .ok (.iconst 1, 1) := by decide +kernel
theorem dL_bed_89 : decode (mC M_L_bed) 89 = .ok (.goto 4, 3) := by decide +kernel
theorem dL_bed_92 : decode (mC M_L_bed) 92 = .ok (.iconst 0, 1) := by decide +kernel
theorem dL_bed_93 : decode (mC M_L_bed) 93 = .ok (.ireturn, 1) := by decide +kernel
theorem dL_frame_0 : decode (mC M_L_frame) 0 = .ok (.aload_n 0, 1) := by decide +kernel
theorem dL_frame_1 : decode (mC M_L_frame) 1 = .ok (.iload_n 1, 1) := by decide +kernel
theorem dL_frame_2 : decode (mC M_L_frame) 2 = .ok (.invokevirtual 80, 3) := by decide +kernel
theorem dL_frame_5 : decode (mC M_L_frame) 5 = .ok (.iload_n 2, 1) := by decide +kernel
theorem dL_frame_6 : decode (mC M_L_frame) 6 = .ok (.if_icmp .ne 65, 3) := by decide +kernel
theorem dL_frame_9 : decode (mC M_L_frame) 9 = .ok (.aload_n 0, 1) := by decide +kernel
theorem dL_frame_10 : decode (mC M_L_frame) 10 = .ok (.iload_n 1, 1) := by decide +kernel
theorem dL_frame_11 : decode (mC M_L_frame) 11 = .ok (.invokevirtual 83, 3) := by decide +kernel
theorem dL_frame_14 : decode (mC M_L_frame) 14 = .ok (.iload_n 3, 1) := by decide +kernel
theorem dL_frame_15 : decode (mC M_L_frame) 15 = .ok (.if_icmp .ne 56, 3) := by decide +kernel
theorem dL_frame_18 : decode (mC M_L_frame) 18 = .ok (.aload_n 0, 1) := by decide +kernel
theorem dL_frame_19 : decode (mC M_L_frame) 19 = .ok (.iload_n 1, 1) := by decide +kernel
theorem dL_frame_20 : decode (mC M_L_frame) 20 = .ok (.invokevirtual 86, 3) := by decide +kernel
theorem dL_frame_23 : decode (mC M_L_frame) 23 = .ok (.iload 4, 2) := by decide +kernel
theorem dL_frame_25 : decode (mC M_L_frame) 25 = .ok (.if_icmp .ne 46, 3) := by decide +kernel
theorem dL_frame_28 : decode (mC M_L_frame) 28 = .ok (.aload_n 0, 1) := by decide +kernel
theorem dL_frame_29 : decode (mC M_L_frame) 29 = .ok (.iload_n 1, 1) := by decide +kernel
theorem dL_frame_30 : decode (mC M_L_frame) 30 = .ok (.iconst 0, 1) := by decide +kernel
theorem dL_frame_31 : decode (mC M_L_frame) 31 = .ok (.invokevirtual 89, 3) := by decide +kernel
theorem dL_frame_34 : decode (mC M_L_frame) 34 = .ok (.iload 5, 2) := by decide +kernel
theorem dL_frame_36 : decode (mC M_L_frame) 36 = .ok (.if_icmp .ne 35, 3) := by decide +kernel
theorem dL_frame_39 : decode (mC M_L_frame) 39 = .ok (.aload_n 0, 1) := by decide +kernel
theorem dL_frame_40 : decode (mC M_L_frame) 40 = .ok (.iload_n 1, 1) := by decide +kernel
theorem dL_frame_41 : decode (mC M_L_frame) 41 = .ok (.iconst 1, 1) := by decide +kernel
theorem dL_frame_42 : decode (mC M_L_frame) 42 = .ok (.invokevirtual 89, 3) := by decide +kernel
theorem dL_frame_45 : decode (mC M_L_frame) 45 = .ok (.iload 6, 2) := by decide +kernel
theorem dL_frame_47 : decode (mC M_L_frame) 47 = .ok (.if_icmp .ne 24, 3) := by decide +kernel
theorem dL_frame_50 : decode (mC M_L_frame) 50 = .ok (.aload_n 0, 1) := by decide +kernel
theorem dL_frame_51 : decode (mC M_L_frame) 51 = .ok (.iload_n 1, 1) := by decide +kernel
theorem dL_frame_52 : decode (mC M_L_frame) 52 = .ok (.invokevirtual 77, 3) := by decide +kernel
theorem dL_frame_55 : decode (mC M_L_frame) 55 = .ok (.ifCond .ne 16, 3) := by decide +kernel
theorem dL_frame_58 : decode (mC M_L_frame) 58 = .ok (.aload_n 0, 1) := by decide +kernel
theorem dL_frame_59 : decode (mC M_L_frame) 59 = .ok (.iload_n 1, 1) := by decide +kernel
theorem dL_frame_60 : decode (mC M_L_frame) 60 = .ok (.invokevirtual 93, 3) := by decide +kernel
theorem dL_frame_63 : decode (mC M_L_frame) 63 = .ok (.iconst (-1), 1) := by decide +kernel
theorem dL_frame_64 : decode (mC M_L_frame) 64 = .ok (.if_icmp .ne 7, 3) := by decide +kernel
theorem dL_frame_67 : decode (mC M_L_frame) 67 = .ok (.iconst 1, 1) := by decide +kernel
theorem dL_frame_68 : decode (mC M_L_frame) 68 = .ok (.goto 4, 3) := by decide +kernel
theorem dL_frame_71 : decode (mC M_L_frame) 71 = .ok (.iconst 0, 1) := by decide +kernel
theorem dL_frame_72 : decode (mC M_L_frame) 72 = .ok (.ireturn, 1) := by decide +kernel
theorem dL_meets_0 : decode (mC M_L_meets) 0 = .ok (.aload_n 0, 1) := by decide +kernel
theorem dL_meets_1 : decode (mC M_L_meets) 1 = .ok (.iload_n 1, 1) := by decide +kernel
theorem dL_meets_2 : decode (mC M_L_meets) 2 = .ok (.iload_n 2, 1) := by decide +kernel
theorem dL_meets_3 : decode (mC M_L_meets) 3 = .ok (.iload_n 3, 1) := by decide +kernel
theorem dL_meets_4 : decode (mC M_L_meets) 4 = .ok (.invokevirtual 99, 3) := by decide +kernel
theorem dL_meets_7 : decode (mC M_L_meets) 7 = .ok (.iload 4, 2) := by decide +kernel
theorem dL_meets_9 : decode (mC M_L_meets) 9 = .ok (.if_icmp .ne 19, 3) := by decide +kernel
theorem dL_meets_12 : decode (mC M_L_meets) 12 = .ok (.aload_n 0, 1) := by decide +kernel
theorem dL_meets_13 : decode (mC M_L_meets) 13 = .ok (.iload_n 1, 1) := by decide +kernel
theorem dL_meets_14 : decode (mC M_L_meets) 14 = .ok (.iload_n 2, 1) := by decide +kernel
theorem dL_meets_15 : decode (mC M_L_meets) 15 = .ok (.iload_n 3, 1) := by decide +kernel
theorem dL_meets_16 : decode (mC M_L_meets) 16 = .ok (.invokevirtual 102, 3) := by decide +kernel
theorem dL_meets_19 : decode (mC M_L_meets) 19 = .ok (.iload 4, 2) := by decide +kernel
theorem dL_meets_21 : decode (mC M_L_meets) 21 = .ok (.if_icmp .ne 7, 3) := by decide +kernel
theorem dL_meets_24 : decode (mC M_L_meets) 24 = .ok (.iconst 1, 1) := by decide +kernel
theorem dL_meets_25 : decode (mC M_L_meets) 25 = .ok (.goto 4, 3) := by decide +kernel
theorem dL_meets_28 : decode (mC M_L_meets) 28 = .ok (.iconst 0, 1) := by decide +kernel
theorem dL_meets_29 : decode (mC M_L_meets) 29 = .ok (.ireturn, 1) := by decide +kernel
theorem dL_shots_0 : decode (mC M_L_shots) 0 = .ok (.new 8, 3) := by decide +kernel
theorem dL_shots_3 : decode (mC M_L_shots) 3 = .ok (.dup, 1) := by decide +kernel
theorem dL_shots_4 : decode (mC M_L_shots) 4 = .ok (.invokespecial 131, 3) := by decide +kernel
theorem dL_shots_7 : decode (mC M_L_shots) 7 = .ok (.astore_n 0, 1) := by decide +kernel
theorem dL_shots_8 : decode (mC M_L_shots) 8 = .ok (.aload_n 0, 1) := by decide +kernel
theorem dL_shots_9 : decode (mC M_L_shots) 9 = .ok (.iconst 0, 1) := by decide +kernel
theorem dL_shots_10 : decode (mC M_L_shots) 10 = .ok (.iconst 1, 1) := by decide +kernel
theorem dL_shots_11 : decode (mC M_L_shots) 11 = .ok (.iconst 2, 1) := by decide +kernel
theorem dL_shots_12 : decode (mC M_L_shots) 12 = .ok (.iconst 1, 1) := by decide +kernel
theorem dL_shots_13 : decode (mC M_L_shots) 13 = .ok (.invokevirtual 29, 3) := by decide +kernel
theorem dL_shots_16 : decode (mC M_L_shots) 16 = .ok (.ifCond .ne 353, 3) := by decide +kernel
theorem dL_shots_19 : decode (mC M_L_shots) 19 = .ok (.aload_n 0, 1) := by decide +kernel
theorem dL_shots_20 : decode (mC M_L_shots) 20 = .ok (.iconst 0, 1) := by decide +kernel
theorem dL_shots_21 : decode (mC M_L_shots) 21 = .ok (.bipush 67, 2) := by decide +kernel
theorem dL_shots_23 : decode (mC M_L_shots) 23 = .ok (.bipush 74, 2) := by decide +kernel
theorem dL_shots_25 : decode (mC M_L_shots) 25 = .ok (.bipush 59, 2) := by decide +kernel
theorem dL_shots_27 : decode (mC M_L_shots) 27 = .ok (.bipush 91, 2) := by decide +kernel
theorem dL_shots_29 : decode (mC M_L_shots) 29 = .ok (.bipush 76, 2) := by decide +kernel
theorem dL_shots_31 : decode (mC M_L_shots) 31 = .ok (.bipush 77, 2) := by decide +kernel
theorem dL_shots_33 : decode (mC M_L_shots) 33 = .ok (.invokestatic 140, 3) := by decide +kernel
theorem dL_shots_36 : decode (mC M_L_shots) 36 = .ok (.ifCond .eq 333, 3) := by decide +kernel
theorem dL_shots_39 : decode (mC M_L_shots) 39 = .ok (.aload_n 0, 1) := by decide +kernel
theorem dL_shots_40 : decode (mC M_L_shots) 40 = .ok (.iconst 0, 1) := by decide +kernel
theorem dL_shots_41 : decode (mC M_L_shots) 41 = .ok (.iconst 1, 1) := by decide +kernel
theorem dL_shots_42 : decode (mC M_L_shots) 42 = .ok (.iconst 0, 1) := by decide +kernel
theorem dL_shots_43 : decode (mC M_L_shots) 43 = .ok (.iconst 1, 1) := by decide +kernel
theorem dL_shots_44 : decode (mC M_L_shots) 44 = .ok (.iconst 0, 1) := by decide +kernel
theorem dL_shots_45 : decode (mC M_L_shots) 45 = .ok (.iconst 0, 1) := by decide +kernel
theorem dL_shots_46 : decode (mC M_L_shots) 46 = .ok (.invokestatic 144, 3) := by decide +kernel
theorem dL_shots_49 : decode (mC M_L_shots) 49 = .ok (.ifCond .eq 320, 3) := by decide +kernel
theorem dL_shots_52 : decode (mC M_L_shots) 52 = .ok (.aload_n 0, 1) := by decide +kernel
theorem dL_shots_53 : decode (mC M_L_shots) 53 = .ok (.iconst 1, 1) := by decide +kernel
theorem dL_shots_54 : decode (mC M_L_shots) 54 = .ok (.bipush 40, 2) := by decide +kernel
theorem dL_shots_56 : decode (mC M_L_shots) 56 = .ok (.invokevirtual 108, 3) := by decide +kernel
theorem dL_shots_59 : decode (mC M_L_shots) 59 = .ok (.bipush 30, 2) := by decide +kernel
theorem dL_shots_61 : decode (mC M_L_shots) 61 = .ok (.if_icmp .ne 308, 3) := by decide +kernel
theorem dL_shots_64 : decode (mC M_L_shots) 64 = .ok (.aload_n 0, 1) := by decide +kernel
theorem dL_shots_65 : decode (mC M_L_shots) 65 = .ok (.iconst 1, 1) := by decide +kernel
theorem dL_shots_66 : decode (mC M_L_shots) 66 = .ok (.iconst 1, 1) := by decide +kernel
theorem dL_shots_67 : decode (mC M_L_shots) 67 = .ok (.invokevirtual 108, 3) := by decide +kernel
theorem dL_shots_70 : decode (mC M_L_shots) 70 = .ok (.iconst 1, 1) := by decide +kernel
theorem dL_shots_71 : decode (mC M_L_shots) 71 = .ok (.if_icmp .ne 298, 3) := by decide +kernel
theorem dL_shots_74 : decode (mC M_L_shots) 74 = .ok (.aload_n 0, 1) := by decide +kernel
theorem dL_shots_75 : decode (mC M_L_shots) 75 = .ok (.iconst 1, 1) := by decide +kernel
theorem dL_shots_76 : decode (mC M_L_shots) 76 = .ok (.iconst 2, 1) := by decide +kernel
theorem dL_shots_77 : decode (mC M_L_shots) 77 = .ok (.invokevirtual 108, 3) := by decide +kernel
theorem dL_shots_80 : decode (mC M_L_shots) 80 = .ok (.iconst 1, 1) := by decide +kernel
theorem dL_shots_81 : decode (mC M_L_shots) 81 = .ok (.if_icmp .ne 288, 3) := by decide +kernel
theorem dL_shots_84 : decode (mC M_L_shots) 84 = .ok (.aload_n 0, 1) := by decide +kernel
theorem dL_shots_85 : decode (mC M_L_shots) 85 = .ok (.iconst 1, 1) := by decide +kernel
theorem dL_shots_86 : decode (mC M_L_shots) 86 = .ok (.bipush 16, 2) := by decide +kernel
theorem dL_shots_88 : decode (mC M_L_shots) 88 = .ok (.invokevirtual 108, 3) := by decide +kernel
theorem dL_shots_91 : decode (mC M_L_shots) 91 = .ok (.bipush 12, 2) := by decide +kernel
theorem dL_shots_93 : decode (mC M_L_shots) 93 = .ok (.if_icmp .ne 276, 3) := by decide +kernel
theorem dL_shots_96 : decode (mC M_L_shots) 96 = .ok (.aload_n 0, 1) := by decide +kernel
theorem dL_shots_97 : decode (mC M_L_shots) 97 = .ok (.iconst 0, 1) := by decide +kernel
theorem dL_shots_98 : decode (mC M_L_shots) 98 = .ok (.iconst 2, 1) := by decide +kernel
theorem dL_shots_99 : decode (mC M_L_shots) 99 = .ok (.bipush 12, 2) := by decide +kernel
theorem dL_shots_101 : decode (mC M_L_shots) 101 = .ok (.bipush 8, 2) := by decide +kernel
theorem dL_shots_103 : decode (mC M_L_shots) 103 = .ok (.invokestatic 148, 3) := by decide +kernel
theorem dL_shots_106 : decode (mC M_L_shots) 106 = .ok (.ifCond .eq 263, 3) := by decide +kernel
theorem dL_shots_109 : decode (mC M_L_shots) 109 = .ok (.aload_n 0, 1) := by decide +kernel
theorem dL_shots_110 : decode (mC M_L_shots) 110 = .ok (.iconst 0, 1) := by decide +kernel
theorem dL_shots_111 : decode (mC M_L_shots) 111 = .ok (.iconst 0, 1) := by decide +kernel
theorem dL_shots_112 : decode (mC M_L_shots) 112 = .ok (.iconst 3, 1) := by decide +kernel
theorem dL_shots_113 : decode (mC M_L_shots) 113 = .ok (.iconst 0, 1) := by decide +kernel
theorem dL_shots_114 : decode (mC M_L_shots) 114 = .ok (.invokestatic 148, 3) := by decide +kernel
theorem dL_shots_117 : decode (mC M_L_shots) 117 = .ok (.ifCond .eq 252, 3) := by decide +kernel
theorem dL_shots_120 : decode (mC M_L_shots) 120 = .ok (.aload_n 0, 1) := by decide +kernel
theorem dL_shots_121 : decode (mC M_L_shots) 121 = .ok (.iconst 0, 1) := by decide +kernel
theorem dL_shots_122 : decode (mC M_L_shots) 122 = .ok (.iconst 1, 1) := by decide +kernel
theorem dL_shots_123 : decode (mC M_L_shots) 123 = .ok (.bipush 40, 2) := by decide +kernel
theorem dL_shots_125 : decode (mC M_L_shots) 125 = .ok (.iconst 0, 1) := by decide +kernel
theorem dL_shots_126 : decode (mC M_L_shots) 126 = .ok (.invokestatic 148, 3) := by decide +kernel
theorem dL_shots_129 : decode (mC M_L_shots) 129 = .ok (.ifCond .eq 240, 3) := by decide +kernel
theorem dL_shots_132 : decode (mC M_L_shots) 132 = .ok (.aload_n 0, 1) := by decide +kernel
theorem dL_shots_133 : decode (mC M_L_shots) 133 = .ok (.iconst 0, 1) := by decide +kernel
theorem dL_shots_134 : decode (mC M_L_shots) 134 = .ok (.iconst 0, 1) := by decide +kernel
theorem dL_shots_135 : decode (mC M_L_shots) 135 = .ok (.bipush 40, 2) := by decide +kernel
theorem dL_shots_137 : decode (mC M_L_shots) 137 = .ok (.iconst 0, 1) := by decide +kernel
theorem dL_shots_138 : decode (mC M_L_shots) 138 = .ok (.invokestatic 148, 3) := by decide +kernel
theorem dL_shots_141 : decode (mC M_L_shots) 141 = .ok (.ifCond .eq 228, 3) := by decide +kernel
theorem dL_shots_144 : decode (mC M_L_shots) 144 = .ok (.aload_n 0, 1) := by decide +kernel
theorem dL_shots_145 : decode (mC M_L_shots) 145 = .ok (.iconst 0, 1) := by decide +kernel
theorem dL_shots_146 : decode (mC M_L_shots) 146 = .ok (.iconst 2, 1) := by decide +kernel
theorem dL_shots_147 : decode (mC M_L_shots) 147 = .ok (.bipush 6, 2) := by decide +kernel
theorem dL_shots_149 : decode (mC M_L_shots) 149 = .ok (.iconst 0, 1) := by decide +kernel
theorem dL_shots_150 : decode (mC M_L_shots) 150 = .ok (.invokestatic 148, 3) := by decide +kernel
theorem dL_shots_153 : decode (mC M_L_shots) 153 = .ok (.ifCond .eq 216, 3) := by decide +kernel
theorem dL_shots_156 : decode (mC M_L_shots) 156 = .ok (.aload_n 0, 1) := by decide +kernel
theorem dL_shots_157 : decode (mC M_L_shots) 157 = .ok (.iconst 0, 1) := by decide +kernel
theorem dL_shots_158 : decode (mC M_L_shots) 158 = .ok (.iconst 2, 1) := by decide +kernel
theorem dL_shots_159 : decode (mC M_L_shots) 159 = .ok (.bipush 7, 2) := by decide +kernel
theorem dL_shots_161 : decode (mC M_L_shots) 161 = .ok (.iconst 1, 1) := by decide +kernel
theorem dL_shots_162 : decode (mC M_L_shots) 162 = .ok (.invokestatic 148, 3) := by decide +kernel
theorem dL_shots_165 : decode (mC M_L_shots) 165 = .ok (.ifCond .eq 204, 3) := by decide +kernel
theorem dL_shots_168 : decode (mC M_L_shots) 168 = .ok (.aload_n 0, 1) := by decide +kernel
theorem dL_shots_169 : decode (mC M_L_shots) 169 = .ok (.iconst 0, 1) := by decide +kernel
theorem dL_shots_170 : decode (mC M_L_shots) 170 = .ok (.iconst 4, 1) := by decide +kernel
theorem dL_shots_171 : decode (mC M_L_shots) 171 = .ok (.iconst 2, 1) := by decide +kernel
theorem dL_shots_172 : decode (mC M_L_shots) 172 = .ok (.invokevirtual 36, 3) := by decide +kernel
theorem dL_shots_175 : decode (mC M_L_shots) 175 = .ok (.bipush (-4), 2) := by decide +kernel
theorem dL_shots_177 : decode (mC M_L_shots) 177 = .ok (.if_icmp .ne 192, 3) := by decide +kernel
theorem dL_shots_180 : decode (mC M_L_shots) 180 = .ok (.aload_n 0, 1) := by decide +kernel
theorem dL_shots_181 : decode (mC M_L_shots) 181 = .ok (.iconst 0, 1) := by decide +kernel
theorem dL_shots_182 : decode (mC M_L_shots) 182 = .ok (.bipush 83, 2) := by decide +kernel
theorem dL_shots_184 : decode (mC M_L_shots) 184 = .ok (.bipush 74, 2) := by decide +kernel
theorem dL_shots_186 : decode (mC M_L_shots) 186 = .ok (.bipush 59, 2) := by decide +kernel
theorem dL_shots_188 : decode (mC M_L_shots) 188 = .ok (.bipush 91, 2) := by decide +kernel
theorem dL_shots_190 : decode (mC M_L_shots) 190 = .ok (.bipush 76, 2) := by decide +kernel
theorem dL_shots_192 : decode (mC M_L_shots) 192 = .ok (.bipush 77, 2) := by decide +kernel
theorem dL_shots_194 : decode (mC M_L_shots) 194 = .ok (.invokestatic 140, 3) := by decide +kernel
theorem dL_shots_197 : decode (mC M_L_shots) 197 = .ok (.ifCond .eq 172, 3) := by decide +kernel
theorem dL_shots_200 : decode (mC M_L_shots) 200 = .ok (.aload_n 0, 1) := by decide +kernel
theorem dL_shots_201 : decode (mC M_L_shots) 201 = .ok (.iconst 0, 1) := by decide +kernel
theorem dL_shots_202 : decode (mC M_L_shots) 202 = .ok (.iconst 1, 1) := by decide +kernel
theorem dL_shots_203 : decode (mC M_L_shots) 203 = .ok (.iconst 1, 1) := by decide +kernel
theorem dL_shots_204 : decode (mC M_L_shots) 204 = .ok (.iconst 2, 1) := by decide +kernel
theorem dL_shots_205 : decode (mC M_L_shots) 205 = .ok (.iconst 0, 1) := by decide +kernel
theorem dL_shots_206 : decode (mC M_L_shots) 206 = .ok (.iconst 4, 1) := by decide +kernel
theorem dL_shots_207 : decode (mC M_L_shots) 207 = .ok (.invokestatic 144, 3) := by decide +kernel
theorem dL_shots_210 : decode (mC M_L_shots) 210 = .ok (.ifCond .eq 159, 3) := by decide +kernel
theorem dL_shots_213 : decode (mC M_L_shots) 213 = .ok (.aload_n 0, 1) := by decide +kernel
theorem dL_shots_214 : decode (mC M_L_shots) 214 = .ok (.iconst 0, 1) := by decide +kernel
theorem dL_shots_215 : decode (mC M_L_shots) 215 = .ok (.iconst 1, 1) := by decide +kernel
theorem dL_shots_216 : decode (mC M_L_shots) 216 = .ok (.bipush 14, 2) := by decide +kernel
theorem dL_shots_218 : decode (mC M_L_shots) 218 = .ok (.iconst 4, 1) := by decide +kernel
theorem dL_shots_219 : decode (mC M_L_shots) 219 = .ok (.invokestatic 148, 3) := by decide +kernel
theorem dL_shots_222 : decode (mC M_L_shots) 222 = .ok (.ifCond .eq 147, 3) := by decide +kernel
theorem dL_shots_225 : decode (mC M_L_shots) 225 = .ok (.aload_n 0, 1) := by decide +kernel
theorem dL_shots_226 : decode (mC M_L_shots) 226 = .ok (.iconst 0, 1) := by decide +kernel
theorem dL_shots_227 : decode (mC M_L_shots) 227 = .ok (.iconst 1, 1) := by decide +kernel
theorem dL_shots_228 : decode (mC M_L_shots) 228 = .ok (.bipush 19, 2) := by decide +kernel
theorem dL_shots_230 : decode (mC M_L_shots) 230 = .ok (.invokevirtual 36, 3) := by decide +kernel
theorem dL_shots_233 : decode (mC M_L_shots) 233 = .ok (.iconst 5, 1) := by decide +kernel
theorem dL_shots_234 : decode (mC M_L_shots) 234 = .ok (.if_icmp .ne 135, 3) := by decide +kernel
theorem dL_shots_237 : decode (mC M_L_shots) 237 = .ok (.aload_n 0, 1) := by decide +kernel
theorem dL_shots_238 : decode (mC M_L_shots) 238 = .ok (.iconst 0, 1) := by decide +kernel
theorem dL_shots_239 : decode (mC M_L_shots) 239 = .ok (.bipush 59, 2) := by decide +kernel
theorem dL_shots_241 : decode (mC M_L_shots) 241 = .ok (.bipush 74, 2) := by decide +kernel
theorem dL_shots_243 : decode (mC M_L_shots) 243 = .ok (.bipush 93, 2) := by decide +kernel
theorem dL_shots_245 : decode (mC M_L_shots) 245 = .ok (.bipush 91, 2) := by decide +kernel
theorem dL_shots_247 : decode (mC M_L_shots) 247 = .ok (.iconst (-1), 1) := by decide +kernel
theorem dL_shots_248 : decode (mC M_L_shots) 248 = .ok (.bipush 77, 2) := by decide +kernel
theorem dL_shots_250 : decode (mC M_L_shots) 250 = .ok (.invokestatic 140, 3) := by decide +kernel
theorem dL_shots_253 : decode (mC M_L_shots) 253 = .ok (.ifCond .eq 116, 3) := by decide +kernel
theorem dL_shots_256 : decode (mC M_L_shots) 256 = .ok (.aload_n 0, 1) := by decide +kernel
theorem dL_shots_257 : decode (mC M_L_shots) 257 = .ok (.iconst 0, 1) := by decide +kernel
theorem dL_shots_258 : decode (mC M_L_shots) 258 = .ok (.iconst 1, 1) := by decide +kernel
theorem dL_shots_259 : decode (mC M_L_shots) 259 = .ok (.iconst 0, 1) := by decide +kernel
theorem dL_shots_260 : decode (mC M_L_shots) 260 = .ok (.iconst 2, 1) := by decide +kernel
theorem dL_shots_261 : decode (mC M_L_shots) 261 = .ok (.iconst 0, 1) := by decide +kernel
theorem dL_shots_262 : decode (mC M_L_shots) 262 = .ok (.bipush 9, 2) := by decide +kernel
theorem dL_shots_264 : decode (mC M_L_shots) 264 = .ok (.invokestatic 144, 3) := by decide +kernel
theorem dL_shots_267 : decode (mC M_L_shots) 267 = .ok (.ifCond .eq 102, 3) := by decide +kernel
theorem dL_shots_270 : decode (mC M_L_shots) 270 = .ok (.aload_n 0, 1) := by decide +kernel
theorem dL_shots_271 : decode (mC M_L_shots) 271 = .ok (.iconst 0, 1) := by decide +kernel
theorem dL_shots_272 : decode (mC M_L_shots) 272 = .ok (.iconst 5, 1) := by decide +kernel
theorem dL_shots_273 : decode (mC M_L_shots) 273 = .ok (.iconst 5, 1) := by decide +kernel
theorem dL_shots_274 : decode (mC M_L_shots) 274 = .ok (.iconst 1, 1) := by decide +kernel
theorem dL_shots_275 : decode (mC M_L_shots) 275 = .ok (.invokestatic 148, 3) := by decide +kernel
theorem dL_shots_278 : decode (mC M_L_shots) 278 = .ok (.ifCond .eq 91, 3) := by decide +kernel
theorem dL_shots_281 : decode (mC M_L_shots) 281 = .ok (.aload_n 0, 1) := by decide +kernel
theorem dL_shots_282 : decode (mC M_L_shots) 282 = .ok (.iconst 0, 1) := by decide +kernel
theorem dL_shots_283 : decode (mC M_L_shots) 283 = .ok (.iconst 5, 1) := by decide +kernel
theorem dL_shots_284 : decode (mC M_L_shots) 284 = .ok (.bipush 7, 2) := by decide +kernel
theorem dL_shots_286 : decode (mC M_L_shots) 286 = .ok (.invokevirtual 36, 3) := by decide +kernel
theorem dL_shots_289 : decode (mC M_L_shots) 289 = .ok (.iconst 1, 1) := by decide +kernel
theorem dL_shots_290 : decode (mC M_L_shots) 290 = .ok (.if_icmp .ne 79, 3) := by decide +kernel
theorem dL_shots_293 : decode (mC M_L_shots) 293 = .ok (.aload_n 0, 1) := by decide +kernel
theorem dL_shots_294 : decode (mC M_L_shots) 294 = .ok (.iconst 0, 1) := by decide +kernel
theorem dL_shots_295 : decode (mC M_L_shots) 295 = .ok (.bipush 89, 2) := by decide +kernel
theorem dL_shots_297 : decode (mC M_L_shots) 297 = .ok (.iconst (-1), 1) := by decide +kernel
theorem dL_shots_298 : decode (mC M_L_shots) 298 = .ok (.bipush 93, 2) := by decide +kernel
theorem dL_shots_300 : decode (mC M_L_shots) 300 = .ok (.bipush 91, 2) := by decide +kernel
theorem dL_shots_302 : decode (mC M_L_shots) 302 = .ok (.iconst (-1), 1) := by decide +kernel
theorem dL_shots_303 : decode (mC M_L_shots) 303 = .ok (.bipush 77, 2) := by decide +kernel
theorem dL_shots_305 : decode (mC M_L_shots) 305 = .ok (.invokestatic 140, 3) := by decide +kernel
theorem dL_shots_308 : decode (mC M_L_shots) 308 = .ok (.ifCond .eq 61, 3) := by decide +kernel
theorem dL_shots_311 : decode (mC M_L_shots) 311 = .ok (.aload_n 0, 1) := by decide +kernel
theorem dL_shots_312 : decode (mC M_L_shots) 312 = .ok (.iconst 0, 1) := by decide +kernel
theorem dL_shots_313 : decode (mC M_L_shots) 313 = .ok (.iconst 2, 1) := by decide +kernel
theorem dL_shots_314 : decode (mC M_L_shots) 314 = .ok (.iconst 0, 1) := by decide +kernel
theorem dL_shots_315 : decode (mC M_L_shots) 315 = .ok (.iconst 2, 1) := by decide +kernel
theorem dL_shots_316 : decode (mC M_L_shots) 316 = .ok (.iconst 0, 1) := by decide +kernel
theorem dL_shots_317 : decode (mC M_L_shots) 317 = .ok (.bipush 10, 2) := by decide +kernel
theorem dL_shots_319 : decode (mC M_L_shots) 319 = .ok (.invokestatic 144, 3) := by decide +kernel
theorem dL_shots_322 : decode (mC M_L_shots) 322 = .ok (.ifCond .eq 47, 3) := by decide +kernel
theorem dL_shots_325 : decode (mC M_L_shots) 325 = .ok (.aload_n 0, 1) := by decide +kernel
theorem dL_shots_326 : decode (mC M_L_shots) 326 = .ok (.iconst 0, 1) := by decide +kernel
theorem dL_shots_327 : decode (mC M_L_shots) 327 = .ok (.iconst 2, 1) := by decide +kernel
theorem dL_shots_328 : decode (mC M_L_shots) 328 = .ok (.iconst 4, 1) := by decide +kernel
theorem dL_shots_329 : decode (mC M_L_shots) 329 = .ok (.invokevirtual 36, 3) := by decide +kernel
theorem dL_shots_332 : decode (mC M_L_shots) 332 = .ok (.bipush (-4), 2) := by decide +kernel
theorem dL_shots_334 : decode (mC M_L_shots) 334 = .ok (.if_icmp .ne 35, 3) := by decide +kernel
theorem dL_shots_337 : decode (mC M_L_shots) 337 = .ok (.aload_n 0, 1) := by decide +kernel
theorem dL_shots_338 : decode (mC M_L_shots) 338 = .ok (.iconst 0, 1) := by decide +kernel
theorem dL_shots_339 : decode (mC M_L_shots) 339 = .ok (.bipush 91, 2) := by decide +kernel
theorem dL_shots_341 : decode (mC M_L_shots) 341 = .ok (.iconst (-1), 1) := by decide +kernel
theorem dL_shots_342 : decode (mC M_L_shots) 342 = .ok (.bipush 93, 2) := by decide +kernel
theorem dL_shots_344 : decode (mC M_L_shots) 344 = .ok (.bipush 92, 2) := by decide +kernel
theorem dL_shots_346 : decode (mC M_L_shots) 346 = .ok (.iconst (-1), 1) := by decide +kernel
theorem dL_shots_347 : decode (mC M_L_shots) 347 = .ok (.bipush 77, 2) := by decide +kernel
theorem dL_shots_349 : decode (mC M_L_shots) 349 = .ok (.invokestatic 140, 3) := by decide +kernel
theorem dL_shots_352 : decode (mC M_L_shots) 352 = .ok (.ifCond .eq 17, 3) := by decide +kernel
theorem dL_shots_355 : decode (mC M_L_shots) 355 = .ok (.aload_n 0, 1) := by decide +kernel
theorem dL_shots_356 : decode (mC M_L_shots) 356 = .ok (.iconst 0, 1) := by decide +kernel
theorem dL_shots_357 : decode (mC M_L_shots) 357 = .ok (.iconst 2, 1) := by decide +kernel
theorem dL_shots_358 : decode (mC M_L_shots) 358 = .ok (.iconst 1, 1) := by decide +kernel
theorem dL_shots_359 : decode (mC M_L_shots) 359 = .ok (.iconst 1, 1) := by decide +kernel
theorem dL_shots_360 : decode (mC M_L_shots) 360 = .ok (.iconst 4, 1) := by decide +kernel
theorem dL_shots_361 : decode (mC M_L_shots) 361 = .ok (.bipush 10, 2) := by decide +kernel
theorem dL_shots_363 : decode (mC M_L_shots) 363 = .ok (.invokestatic 144, 3) := by decide +kernel
theorem dL_shots_366 : decode (mC M_L_shots) 366 = .ok (.ifCond .ne 5, 3) := by decide +kernel
theorem dL_shots_369 : decode (mC M_L_shots) 369 = .ok (.iconst 0, 1) := by decide +kernel
theorem dL_shots_370 : decode (mC M_L_shots) 370 = .ok (.ireturn, 1) := by decide +kernel
theorem dL_shots_371 : decode (mC M_L_shots) 371 = .ok (.aload_n 0, 1) := by decide +kernel
theorem dL_shots_372 : decode (mC M_L_shots) 372 = .ok (.iconst 0, 1) := by decide +kernel
theorem dL_shots_373 : decode (mC M_L_shots) 373 = .ok (.iconst 1, 1) := by decide +kernel
theorem dL_shots_374 : decode (mC M_L_shots) 374 = .ok (.invokevirtual 40, 3) := by decide +kernel
theorem dL_shots_377 : decode (mC M_L_shots) 377 = .ok (.ifCond .ne 189, 3) := by decide +kernel
theorem dL_shots_380 : decode (mC M_L_shots) 380 = .ok (.aload_n 0, 1) := by decide +kernel
theorem dL_shots_381 : decode (mC M_L_shots) 381 = .ok (.bipush 10, 2) := by decide +kernel
theorem dL_shots_383 : decode (mC M_L_shots) 383 = .ok (.iconst 0, 1) := by decide +kernel
theorem dL_shots_384 : decode (mC M_L_shots) 384 = .ok (.iconst 2, 1) := by decide +kernel
theorem dL_shots_385 : decode (mC M_L_shots) 385 = .ok (.iconst 0, 1) := by decide +kernel
theorem dL_shots_386 : decode (mC M_L_shots) 386 = .ok (.invokestatic 122, 3) := by decide +kernel
theorem dL_shots_389 : decode (mC M_L_shots) 389 = .ok (.bipush (-73), 2) := by decide +kernel
theorem dL_shots_391 : decode (mC M_L_shots) 391 = .ok (.if_icmp .ne 175, 3) := by decide +kernel
theorem dL_shots_394 : decode (mC M_L_shots) 394 = .ok (.aload_n 0, 1) := by decide +kernel
theorem dL_shots_395 : decode (mC M_L_shots) 395 = .ok (.bipush 10, 2) := by decide +kernel
theorem dL_shots_397 : decode (mC M_L_shots) 397 = .ok (.iconst 1, 1) := by decide +kernel
theorem dL_shots_398 : decode (mC M_L_shots) 398 = .ok (.iconst 1, 1) := by decide +kernel
theorem dL_shots_399 : decode (mC M_L_shots) 399 = .ok (.iconst 0, 1) := by decide +kernel
theorem dL_shots_400 : decode (mC M_L_shots) 400 = .ok (.invokestatic 122, 3) := by decide +kernel
theorem dL_shots_403 : decode (mC M_L_shots) 403 = .ok (.bipush (-73), 2) := by decide +kernel
theorem dL_shots_405 : decode (mC M_L_shots) 405 = .ok (.if_icmp .ne 161, 3) := by decide +kernel
theorem dL_shots_408 : decode (mC M_L_shots) 408 = .ok (.aload_n 0, 1) := by decide +kernel
theorem dL_shots_409 : decode (mC M_L_shots) 409 = .ok (.iconst 1, 1) := by decide +kernel
theorem dL_shots_410 : decode (mC M_L_shots) 410 = .ok (.invokevirtual 74, 3) := by decide +kernel
theorem dL_shots_413 : decode (mC M_L_shots) 413 = .ok (.ifCond .ne 153, 3) := by decide +kernel
theorem dL_shots_416 : decode (mC M_L_shots) 416 = .ok (.aload_n 0, 1) := by decide +kernel
theorem dL_shots_417 : decode (mC M_L_shots) 417 = .ok (.iconst 2, 1) := by decide +kernel
theorem dL_shots_418 : decode (mC M_L_shots) 418 = .ok (.invokevirtual 74, 3) := by decide +kernel
theorem dL_shots_421 : decode (mC M_L_shots) 421 = .ok (.iconst (-1), 1) := by decide +kernel
theorem dL_shots_422 : decode (mC M_L_shots) 422 = .ok (.if_icmp .ne 144, 3) := by decide +kernel
theorem dL_shots_425 : decode (mC M_L_shots) 425 = .ok (.aload_n 0, 1) := by decide +kernel
theorem dL_shots_426 : decode (mC M_L_shots) 426 = .ok (.iconst 1, 1) := by decide +kernel
theorem dL_shots_427 : decode (mC M_L_shots) 427 = .ok (.bipush 10, 2) := by decide +kernel
theorem dL_shots_429 : decode (mC M_L_shots) 429 = .ok (.invokevirtual 108, 3) := by decide +kernel
theorem dL_shots_432 : decode (mC M_L_shots) 432 = .ok (.bipush 10, 2) := by decide +kernel
theorem dL_shots_434 : decode (mC M_L_shots) 434 = .ok (.if_icmp .ne 132, 3) := by decide +kernel
theorem dL_shots_437 : decode (mC M_L_shots) 437 = .ok (.aload_n 0, 1) := by decide +kernel
theorem dL_shots_438 : decode (mC M_L_shots) 438 = .ok (.iconst 1, 1) := by decide +kernel
theorem dL_shots_439 : decode (mC M_L_shots) 439 = .ok (.bipush 20, 2) := by decide +kernel
theorem dL_shots_441 : decode (mC M_L_shots) 441 = .ok (.invokestatic 136, 3) := by decide +kernel
theorem dL_shots_444 : decode (mC M_L_shots) 444 = .ok (.ifCond .eq 122, 3) := by decide +kernel
theorem dL_shots_447 : decode (mC M_L_shots) 447 = .ok (.aload_n 0, 1) := by decide +kernel
theorem dL_shots_448 : decode (mC M_L_shots) 448 = .ok (.iconst 0, 1) := by decide +kernel
theorem dL_shots_449 : decode (mC M_L_shots) 449 = .ok (.iconst 2, 1) := by decide +kernel
theorem dL_shots_450 : decode (mC M_L_shots) 450 = .ok (.iconst 1, 1) := by decide +kernel
theorem dL_shots_451 : decode (mC M_L_shots) 451 = .ok (.iconst 2, 1) := by decide +kernel
theorem dL_shots_452 : decode (mC M_L_shots) 452 = .ok (.invokestatic 148, 3) := by decide +kernel
theorem dL_shots_455 : decode (mC M_L_shots) 455 = .ok (.ifCond .eq 111, 3) := by decide +kernel
theorem dL_shots_458 : decode (mC M_L_shots) 458 = .ok (.aload_n 0, 1) := by decide +kernel
theorem dL_shots_459 : decode (mC M_L_shots) 459 = .ok (.iconst 0, 1) := by decide +kernel
theorem dL_shots_460 : decode (mC M_L_shots) 460 = .ok (.iconst 2, 1) := by decide +kernel
theorem dL_shots_461 : decode (mC M_L_shots) 461 = .ok (.iconst 1, 1) := by decide +kernel
theorem dL_shots_462 : decode (mC M_L_shots) 462 = .ok (.invokevirtual 36, 3) := by decide +kernel
theorem dL_shots_465 : decode (mC M_L_shots) 465 = .ok (.ifCond .ne 101, 3) := by decide +kernel
theorem dL_shots_468 : decode (mC M_L_shots) 468 = .ok (.aload_n 0, 1) := by decide +kernel
theorem dL_shots_469 : decode (mC M_L_shots) 469 = .ok (.iconst 0, 1) := by decide +kernel
theorem dL_shots_470 : decode (mC M_L_shots) 470 = .ok (.bipush 91, 2) := by decide +kernel
theorem dL_shots_472 : decode (mC M_L_shots) 472 = .ok (.iconst (-1), 1) := by decide +kernel
theorem dL_shots_473 : decode (mC M_L_shots) 473 = .ok (.bipush 94, 2) := by decide +kernel
theorem dL_shots_475 : decode (mC M_L_shots) 475 = .ok (.bipush 92, 2) := by decide +kernel
theorem dL_shots_477 : decode (mC M_L_shots) 477 = .ok (.iconst (-1), 1) := by decide +kernel
theorem dL_shots_478 : decode (mC M_L_shots) 478 = .ok (.bipush 77, 2) := by decide +kernel
theorem dL_shots_480 : decode (mC M_L_shots) 480 = .ok (.invokestatic 140, 3) := by decide +kernel
theorem dL_shots_483 : decode (mC M_L_shots) 483 = .ok (.ifCond .eq 83, 3) := by decide +kernel
theorem dL_shots_486 : decode (mC M_L_shots) 486 = .ok (.aload_n 0, 1) := by decide +kernel
theorem dL_shots_487 : decode (mC M_L_shots) 487 = .ok (.iconst 0, 1) := by decide +kernel
theorem dL_shots_488 : decode (mC M_L_shots) 488 = .ok (.iconst 2, 1) := by decide +kernel
theorem dL_shots_489 : decode (mC M_L_shots) 489 = .ok (.iconst 0, 1) := by decide +kernel
theorem dL_shots_490 : decode (mC M_L_shots) 490 = .ok (.iconst 2, 1) := by decide +kernel
theorem dL_shots_491 : decode (mC M_L_shots) 491 = .ok (.iconst 4, 1) := by decide +kernel
theorem dL_shots_492 : decode (mC M_L_shots) 492 = .ok (.bipush 10, 2) := by decide +kernel
theorem dL_shots_494 : decode (mC M_L_shots) 494 = .ok (.invokestatic 144, 3) := by decide +kernel
theorem dL_shots_497 : decode (mC M_L_shots) 497 = .ok (.ifCond .eq 69, 3) := by decide +kernel
theorem dL_shots_500 : decode (mC M_L_shots) 500 = .ok (.aload_n 0, 1) := by decide +kernel
theorem dL_shots_501 : decode (mC M_L_shots) 501 = .ok (.iconst 0, 1) := by decide +kernel
theorem dL_shots_502 : decode (mC M_L_shots) 502 = .ok (.invokevirtual 105, 3) := by decide +kernel
theorem dL_shots_505 : decode (mC M_L_shots) 505 = .ok (.iconst 1, 1) := by decide +kernel
theorem dL_shots_506 : decode (mC M_L_shots) 506 = .ok (.if_icmp .ne 60, 3) := by decide +kernel
theorem dL_shots_509 : decode (mC M_L_shots) 509 = .ok (.aload_n 0, 1) := by decide +kernel
theorem dL_shots_510 : decode (mC M_L_shots) 510 = .ok (.iconst 0, 1) := by decide +kernel
theorem dL_shots_511 : decode (mC M_L_shots) 511 = .ok (.invokevirtual 43, 3) := by decide +kernel
theorem dL_shots_514 : decode (mC M_L_shots) 514 = .ok (.bipush 20, 2) := by decide +kernel
theorem dL_shots_516 : decode (mC M_L_shots) 516 = .ok (.if_icmp .ne 50, 3) := by decide +kernel
theorem dL_shots_519 : decode (mC M_L_shots) 519 = .ok (.aload_n 0, 1) := by decide +kernel
theorem dL_shots_520 : decode (mC M_L_shots) 520 = .ok (.iconst 1, 1) := by decide +kernel
theorem dL_shots_521 : decode (mC M_L_shots) 521 = .ok (.iconst 0, 1) := by decide +kernel
theorem dL_shots_522 : decode (mC M_L_shots) 522 = .ok (.invokestatic 136, 3) := by decide +kernel
theorem dL_shots_525 : decode (mC M_L_shots) 525 = .ok (.ifCond .eq 41, 3) := by decide +kernel
theorem dL_shots_528 : decode (mC M_L_shots) 528 = .ok (.aload_n 0, 1) := by decide +kernel
theorem dL_shots_529 : decode (mC M_L_shots) 529 = .ok (.bipush 11, 2) := by decide +kernel
theorem dL_shots_531 : decode (mC M_L_shots) 531 = .ok (.iconst 0, 1) := by decide +kernel
theorem dL_shots_532 : decode (mC M_L_shots) 532 = .ok (.iconst 0, 1) := by decide +kernel
theorem dL_shots_533 : decode (mC M_L_shots) 533 = .ok (.iconst 0, 1) := by decide +kernel
theorem dL_shots_534 : decode (mC M_L_shots) 534 = .ok (.invokestatic 122, 3) := by decide +kernel
theorem dL_shots_537 : decode (mC M_L_shots) 537 = .ok (.bipush (-73), 2) := by decide +kernel
theorem dL_shots_539 : decode (mC M_L_shots) 539 = .ok (.if_icmp .ne 27, 3) := by decide +kernel
theorem dL_shots_542 : decode (mC M_L_shots) 542 = .ok (.aload_n 0, 1) := by decide +kernel
theorem dL_shots_543 : decode (mC M_L_shots) 543 = .ok (.iconst 1, 1) := by decide +kernel
theorem dL_shots_544 : decode (mC M_L_shots) 544 = .ok (.invokevirtual 68, 3) := by decide +kernel
theorem dL_shots_547 : decode (mC M_L_shots) 547 = .ok (.ifCond .ne 19, 3) := by decide +kernel
theorem dL_shots_550 : decode (mC M_L_shots) 550 = .ok (.aload_n 0, 1) := by decide +kernel
theorem dL_shots_551 : decode (mC M_L_shots) 551 = .ok (.iconst 1, 1) := by decide +kernel
theorem dL_shots_552 : decode (mC M_L_shots) 552 = .ok (.invokevirtual 71, 3) := by decide +kernel
theorem dL_shots_555 : decode (mC M_L_shots) 555 = .ok (.ifCond .ne 11, 3) := by decide +kernel
theorem dL_shots_558 : decode (mC M_L_shots) 558 = .ok (.aload_n 0, 1) := by decide +kernel
theorem dL_shots_559 : decode (mC M_L_shots) 559 = .ok (.iconst 1, 1) := by decide +kernel
theorem dL_shots_560 : decode (mC M_L_shots) 560 = .ok (.invokestatic 132, 3) := by decide +kernel
theorem dL_shots_563 : decode (mC M_L_shots) 563 = .ok (.ifCond .ne 5, 3) := by decide +kernel
theorem dL_shots_566 : decode (mC M_L_shots) 566 = .ok (.iconst 0, 1) := by decide +kernel
theorem dL_shots_567 : decode (mC M_L_shots) 567 = .ok (.ireturn, 1) := by decide +kernel
theorem dL_shots_568 : decode (mC M_L_shots) 568 = .ok (.aload_n 0, 1) := by decide +kernel
theorem dL_shots_569 : decode (mC M_L_shots) 569 = .ok (.iconst 1, 1) := by decide +kernel
theorem dL_shots_570 : decode (mC M_L_shots) 570 = .ok (.iconst 4, 1) := by decide +kernel
theorem dL_shots_571 : decode (mC M_L_shots) 571 = .ok (.iconst 5, 1) := by decide +kernel
theorem dL_shots_572 : decode (mC M_L_shots) 572 = .ok (.iconst 1, 1) := by decide +kernel
theorem dL_shots_573 : decode (mC M_L_shots) 573 = .ok (.invokevirtual 29, 3) := by decide +kernel
theorem dL_shots_576 : decode (mC M_L_shots) 576 = .ok (.iconst 1, 1) := by decide +kernel
theorem dL_shots_577 : decode (mC M_L_shots) 577 = .ok (.if_icmp .ne 255, 3) := by decide +kernel
theorem dL_shots_580 : decode (mC M_L_shots) 580 = .ok (.aload_n 0, 1) := by decide +kernel
theorem dL_shots_581 : decode (mC M_L_shots) 581 = .ok (.iconst 1, 1) := by decide +kernel
theorem dL_shots_582 : decode (mC M_L_shots) 582 = .ok (.iconst 2, 1) := by decide +kernel
theorem dL_shots_583 : decode (mC M_L_shots) 583 = .ok (.bipush 16, 2) := by decide +kernel
theorem dL_shots_585 : decode (mC M_L_shots) 585 = .ok (.invokevirtual 36, 3) := by decide +kernel
theorem dL_shots_588 : decode (mC M_L_shots) 588 = .ok (.ifCond .ne 244, 3) := by decide +kernel
theorem dL_shots_591 : decode (mC M_L_shots) 591 = .ok (.aload_n 0, 1) := by decide +kernel
theorem dL_shots_592 : decode (mC M_L_shots) 592 = .ok (.iconst 1, 1) := by decide +kernel
theorem dL_shots_593 : decode (mC M_L_shots) 593 = .ok (.bipush 74, 2) := by decide +kernel
theorem dL_shots_595 : decode (mC M_L_shots) 595 = .ok (.bipush 76, 2) := by decide +kernel
theorem dL_shots_597 : decode (mC M_L_shots) 597 = .ok (.bipush 59, 2) := by decide +kernel
theorem dL_shots_599 : decode (mC M_L_shots) 599 = .ok (.bipush 91, 2) := by decide +kernel
theorem dL_shots_601 : decode (mC M_L_shots) 601 = .ok (.bipush 77, 2) := by decide +kernel
theorem dL_shots_603 : decode (mC M_L_shots) 603 = .ok (.bipush 79, 2) := by decide +kernel
theorem dL_shots_605 : decode (mC M_L_shots) 605 = .ok (.invokestatic 140, 3) := by decide +kernel
theorem dL_shots_608 : decode (mC M_L_shots) 608 = .ok (.ifCond .eq 224, 3) := by decide +kernel
theorem dL_shots_611 : decode (mC M_L_shots) 611 = .ok (.aload_n 0, 1) := by decide +kernel
theorem dL_shots_612 : decode (mC M_L_shots) 612 = .ok (.iconst 1, 1) := by decide +kernel
theorem dL_shots_613 : decode (mC M_L_shots) 613 = .ok (.iconst 1, 1) := by decide +kernel
theorem dL_shots_614 : decode (mC M_L_shots) 614 = .ok (.iconst 0, 1) := by decide +kernel
theorem dL_shots_615 : decode (mC M_L_shots) 615 = .ok (.iconst 5, 1) := by decide +kernel
theorem dL_shots_616 : decode (mC M_L_shots) 616 = .ok (.iconst 0, 1) := by decide +kernel
theorem dL_shots_617 : decode (mC M_L_shots) 617 = .ok (.iconst 0, 1) := by decide +kernel
theorem dL_shots_618 : decode (mC M_L_shots) 618 = .ok (.invokestatic 144, 3) := by decide +kernel
theorem dL_shots_621 : decode (mC M_L_shots) 621 = .ok (.ifCond .eq 211, 3) := by decide +kernel
theorem dL_shots_624 : decode (mC M_L_shots) 624 = .ok (.aload_n 0, 1) := by decide +kernel
theorem dL_shots_625 : decode (mC M_L_shots) 625 = .ok (.iconst 2, 1) := by decide +kernel
theorem dL_shots_626 : decode (mC M_L_shots) 626 = .ok (.iconst 4, 1) := by decide +kernel
theorem dL_shots_627 : decode (mC M_L_shots) 627 = .ok (.bipush 6, 2) := by decide +kernel
theorem dL_shots_629 : decode (mC M_L_shots) 629 = .ok (.iconst 1, 1) := by decide +kernel
theorem dL_shots_630 : decode (mC M_L_shots) 630 = .ok (.invokevirtual 29, 3) := by decide +kernel
theorem dL_shots_633 : decode (mC M_L_shots) 633 = .ok (.iconst 2, 1) := by decide +kernel
theorem dL_shots_634 : decode (mC M_L_shots) 634 = .ok (.if_icmp .ne 198, 3) := by decide +kernel
theorem dL_shots_637 : decode (mC M_L_shots) 637 = .ok (.aload_n 0, 1) := by decide +kernel
theorem dL_shots_638 : decode (mC M_L_shots) 638 = .ok (.iconst 1, 1) := by decide +kernel
theorem dL_shots_639 : decode (mC M_L_shots) 639 = .ok (.iconst 4, 1) := by decide +kernel
theorem dL_shots_640 : decode (mC M_L_shots) 640 = .ok (.invokevirtual 40, 3) := by decide +kernel
theorem dL_shots_643 : decode (mC M_L_shots) 643 = .ok (.ifCond .ne 189, 3) := by decide +kernel
theorem dL_shots_646 : decode (mC M_L_shots) 646 = .ok (.aload_n 0, 1) := by decide +kernel
theorem dL_shots_647 : decode (mC M_L_shots) 647 = .ok (.iconst 2, 1) := by decide +kernel
theorem dL_shots_648 : decode (mC M_L_shots) 648 = .ok (.iconst 0, 1) := by decide +kernel
theorem dL_shots_649 : decode (mC M_L_shots) 649 = .ok (.bipush 40, 2) := by decide +kernel
theorem dL_shots_651 : decode (mC M_L_shots) 651 = .ok (.invokevirtual 36, 3) := by decide +kernel
theorem dL_shots_654 : decode (mC M_L_shots) 654 = .ok (.bipush (-4), 2) := by decide +kernel
theorem dL_shots_656 : decode (mC M_L_shots) 656 = .ok (.if_icmp .ne 176, 3) := by decide +kernel
theorem dL_shots_659 : decode (mC M_L_shots) 659 = .ok (.aload_n 0, 1) := by decide +kernel
theorem dL_shots_660 : decode (mC M_L_shots) 660 = .ok (.iconst 2, 1) := by decide +kernel
theorem dL_shots_661 : decode (mC M_L_shots) 661 = .ok (.bipush 51, 2) := by decide +kernel
theorem dL_shots_663 : decode (mC M_L_shots) 663 = .ok (.bipush 74, 2) := by decide +kernel
theorem dL_shots_665 : decode (mC M_L_shots) 665 = .ok (.bipush 59, 2) := by decide +kernel
theorem dL_shots_667 : decode (mC M_L_shots) 667 = .ok (.bipush 91, 2) := by decide +kernel
theorem dL_shots_669 : decode (mC M_L_shots) 669 = .ok (.bipush 76, 2) := by decide +kernel
theorem dL_shots_671 : decode (mC M_L_shots) 671 = .ok (.bipush 77, 2) := by decide +kernel
theorem dL_shots_673 : decode (mC M_L_shots) 673 = .ok (.invokestatic 140, 3) := by decide +kernel
theorem dL_shots_676 : decode (mC M_L_shots) 676 = .ok (.ifCond .eq 156, 3) := by decide +kernel
theorem dL_shots_679 : decode (mC M_L_shots) 679 = .ok (.aload_n 0, 1) := by decide +kernel
theorem dL_shots_680 : decode (mC M_L_shots) 680 = .ok (.iconst 2, 1) := by decide +kernel
theorem dL_shots_681 : decode (mC M_L_shots) 681 = .ok (.iconst 1, 1) := by decide +kernel
theorem dL_shots_682 : decode (mC M_L_shots) 682 = .ok (.iconst 1, 1) := by decide +kernel
theorem dL_shots_683 : decode (mC M_L_shots) 683 = .ok (.bipush 6, 2) := by decide +kernel
theorem dL_shots_685 : decode (mC M_L_shots) 685 = .ok (.iconst 0, 1) := by decide +kernel
theorem dL_shots_686 : decode (mC M_L_shots) 686 = .ok (.iconst 4, 1) := by decide +kernel
theorem dL_shots_687 : decode (mC M_L_shots) 687 = .ok (.invokestatic 144, 3) := by decide +kernel
theorem dL_shots_690 : decode (mC M_L_shots) 690 = .ok (.ifCond .eq 142, 3) := by decide +kernel
theorem dL_shots_693 : decode (mC M_L_shots) 693 = .ok (.aload_n 0, 1) := by decide +kernel
theorem dL_shots_694 : decode (mC M_L_shots) 694 = .ok (.iconst 1, 1) := by decide +kernel
theorem dL_shots_695 : decode (mC M_L_shots) 695 = .ok (.invokevirtual 105, 3) := by decide +kernel
theorem dL_shots_698 : decode (mC M_L_shots) 698 = .ok (.bipush 11, 2) := by decide +kernel
theorem dL_shots_700 : decode (mC M_L_shots) 700 = .ok (.if_icmp .ne 132, 3) := by decide +kernel
theorem dL_shots_703 : decode (mC M_L_shots) 703 = .ok (.aload_n 0, 1) := by decide +kernel
theorem dL_shots_704 : decode (mC M_L_shots) 704 = .ok (.iconst 4, 1) := by decide +kernel
theorem dL_shots_705 : decode (mC M_L_shots) 705 = .ok (.bipush 20, 2) := by decide +kernel
theorem dL_shots_707 : decode (mC M_L_shots) 707 = .ok (.invokestatic 136, 3) := by decide +kernel
theorem dL_shots_710 : decode (mC M_L_shots) 710 = .ok (.ifCond .eq 122, 3) := by decide +kernel
theorem dL_shots_713 : decode (mC M_L_shots) 713 = .ok (.aload_n 0, 1) := by decide +kernel
theorem dL_shots_714 : decode (mC M_L_shots) 714 = .ok (.iconst 1, 1) := by decide +kernel
theorem dL_shots_715 : decode (mC M_L_shots) 715 = .ok (.invokevirtual 43, 3) := by decide +kernel
theorem dL_shots_718 : decode (mC M_L_shots) 718 = .ok (.bipush 18, 2) := by decide +kernel
theorem dL_shots_720 : decode (mC M_L_shots) 720 = .ok (.if_icmp .ne 112, 3) := by decide +kernel
theorem dL_shots_723 : decode (mC M_L_shots) 723 = .ok (.aload_n 0, 1) := by decide +kernel
theorem dL_shots_724 : decode (mC M_L_shots) 724 = .ok (.iconst 4, 1) := by decide +kernel
theorem dL_shots_725 : decode (mC M_L_shots) 725 = .ok (.iconst 2, 1) := by decide +kernel
theorem dL_shots_726 : decode (mC M_L_shots) 726 = .ok (.invokestatic 136, 3) := by decide +kernel
theorem dL_shots_729 : decode (mC M_L_shots) 729 = .ok (.ifCond .eq 103, 3) := by decide +kernel
theorem dL_shots_732 : decode (mC M_L_shots) 732 = .ok (.aload_n 0, 1) := by decide +kernel
theorem dL_shots_733 : decode (mC M_L_shots) 733 = .ok (.iconst 1, 1) := by decide +kernel
theorem dL_shots_734 : decode (mC M_L_shots) 734 = .ok (.iconst 4, 1) := by decide +kernel
theorem dL_shots_735 : decode (mC M_L_shots) 735 = .ok (.invokevirtual 40, 3) := by decide +kernel
theorem dL_shots_738 : decode (mC M_L_shots) 738 = .ok (.bipush 11, 2) := by decide +kernel
theorem dL_shots_740 : decode (mC M_L_shots) 740 = .ok (.if_icmp .ne 92, 3) := by decide +kernel
theorem dL_shots_743 : decode (mC M_L_shots) 743 = .ok (.aload_n 0, 1) := by decide +kernel
theorem dL_shots_744 : decode (mC M_L_shots) 744 = .ok (.iconst 4, 1) := by decide +kernel
theorem dL_shots_745 : decode (mC M_L_shots) 745 = .ok (.bipush 40, 2) := by decide +kernel
theorem dL_shots_747 : decode (mC M_L_shots) 747 = .ok (.invokevirtual 108, 3) := by decide +kernel
theorem dL_shots_750 : decode (mC M_L_shots) 750 = .ok (.bipush 37, 2) := by decide +kernel
theorem dL_shots_752 : decode (mC M_L_shots) 752 = .ok (.if_icmp .ne 80, 3) := by decide +kernel
theorem dL_shots_755 : decode (mC M_L_shots) 755 = .ok (.aload_n 0, 1) := by decide +kernel
theorem dL_shots_756 : decode (mC M_L_shots) 756 = .ok (.iconst 4, 1) := by decide +kernel
theorem dL_shots_757 : decode (mC M_L_shots) 757 = .ok (.iconst 1, 1) := by decide +kernel
theorem dL_shots_758 : decode (mC M_L_shots) 758 = .ok (.invokevirtual 108, 3) := by decide +kernel
theorem dL_shots_761 : decode (mC M_L_shots) 761 = .ok (.iconst 1, 1) := by decide +kernel
theorem dL_shots_762 : decode (mC M_L_shots) 762 = .ok (.if_icmp .ne 70, 3) := by decide +kernel
theorem dL_shots_765 : decode (mC M_L_shots) 765 = .ok (.aload_n 0, 1) := by decide +kernel
theorem dL_shots_766 : decode (mC M_L_shots) 766 = .ok (.bipush 12, 2) := by decide +kernel
theorem dL_shots_768 : decode (mC M_L_shots) 768 = .ok (.iconst 1, 1) := by decide +kernel
theorem dL_shots_769 : decode (mC M_L_shots) 769 = .ok (.iconst 0, 1) := by decide +kernel
theorem dL_shots_770 : decode (mC M_L_shots) 770 = .ok (.iconst 0, 1) := by decide +kernel
theorem dL_shots_771 : decode (mC M_L_shots) 771 = .ok (.invokestatic 122, 3) := by decide +kernel
theorem dL_shots_774 : decode (mC M_L_shots) 774 = .ok (.bipush (-73), 2) := by decide +kernel
theorem dL_shots_776 : decode (mC M_L_shots) 776 = .ok (.if_icmp .ne 56, 3) := by decide +kernel
theorem dL_shots_779 : decode (mC M_L_shots) 779 = .ok (.aload_n 0, 1) := by decide +kernel
theorem dL_shots_780 : decode (mC M_L_shots) 780 = .ok (.iconst 1, 1) := by decide +kernel
theorem dL_shots_781 : decode (mC M_L_shots) 781 = .ok (.invokevirtual 43, 3) := by decide +kernel
theorem dL_shots_784 : decode (mC M_L_shots) 784 = .ok (.bipush 20, 2) := by decide +kernel
theorem dL_shots_786 : decode (mC M_L_shots) 786 = .ok (.if_icmp .ne 46, 3) := by decide +kernel
theorem dL_shots_789 : decode (mC M_L_shots) 789 = .ok (.aload_n 0, 1) := by decide +kernel
theorem dL_shots_790 : decode (mC M_L_shots) 790 = .ok (.iconst 4, 1) := by decide +kernel
theorem dL_shots_791 : decode (mC M_L_shots) 791 = .ok (.iconst 2, 1) := by decide +kernel
theorem dL_shots_792 : decode (mC M_L_shots) 792 = .ok (.invokestatic 136, 3) := by decide +kernel
theorem dL_shots_795 : decode (mC M_L_shots) 795 = .ok (.ifCond .eq 37, 3) := by decide +kernel
theorem dL_shots_798 : decode (mC M_L_shots) 798 = .ok (.aload_n 0, 1) := by decide +kernel
theorem dL_shots_799 : decode (mC M_L_shots) 799 = .ok (.iconst 1, 1) := by decide +kernel
theorem dL_shots_800 : decode (mC M_L_shots) 800 = .ok (.invokevirtual 46, 3) := by decide +kernel
theorem dL_shots_803 : decode (mC M_L_shots) 803 = .ok (.bipush 11, 2) := by decide +kernel
theorem dL_shots_805 : decode (mC M_L_shots) 805 = .ok (.if_icmp .ne 27, 3) := by decide +kernel
theorem dL_shots_808 : decode (mC M_L_shots) 808 = .ok (.aload_n 0, 1) := by decide +kernel
theorem dL_shots_809 : decode (mC M_L_shots) 809 = .ok (.iconst 1, 1) := by decide +kernel
theorem dL_shots_810 : decode (mC M_L_shots) 810 = .ok (.invokevirtual 105, 3) := by decide +kernel
theorem dL_shots_813 : decode (mC M_L_shots) 813 = .ok (.ifCond .ne 19, 3) := by decide +kernel
theorem dL_shots_816 : decode (mC M_L_shots) 816 = .ok (.aload_n 0, 1) := by decide +kernel
theorem dL_shots_817 : decode (mC M_L_shots) 817 = .ok (.iconst 1, 1) := by decide +kernel
theorem dL_shots_818 : decode (mC M_L_shots) 818 = .ok (.invokevirtual 46, 3) := by decide +kernel
theorem dL_shots_821 : decode (mC M_L_shots) 821 = .ok (.ifCond .ne 11, 3) := by decide +kernel
theorem dL_shots_824 : decode (mC M_L_shots) 824 = .ok (.aload_n 0, 1) := by decide +kernel
theorem dL_shots_825 : decode (mC M_L_shots) 825 = .ok (.iconst 3, 1) := by decide +kernel
theorem dL_shots_826 : decode (mC M_L_shots) 826 = .ok (.invokestatic 132, 3) := by decide +kernel
theorem dL_shots_829 : decode (mC M_L_shots) 829 = .ok (.ifCond .ne 5, 3) := by decide +kernel
theorem dL_shots_832 : decode (mC M_L_shots) 832 = .ok (.iconst 0, 1) := by decide +kernel
theorem dL_shots_833 : decode (mC M_L_shots) 833 = .ok (.ireturn, 1) := by decide +kernel
theorem dL_shots_834 : decode (mC M_L_shots) 834 = .ok (.aload_n 0, 1) := by decide +kernel
theorem dL_shots_835 : decode (mC M_L_shots) 835 = .ok (.iconst 3, 1) := by decide +kernel
theorem dL_shots_836 : decode (mC M_L_shots) 836 = .ok (.bipush 6, 2) := by decide +kernel
theorem dL_shots_838 : decode (mC M_L_shots) 838 = .ok (.bipush 7, 2) := by decide +kernel
theorem dL_shots_840 : decode (mC M_L_shots) 840 = .ok (.iconst 1, 1) := by decide +kernel
theorem dL_shots_841 : decode (mC M_L_shots) 841 = .ok (.invokevirtual 29, 3) := by decide +kernel
theorem dL_shots_844 : decode (mC M_L_shots) 844 = .ok (.iconst 3, 1) := by decide +kernel
theorem dL_shots_845 : decode (mC M_L_shots) 845 = .ok (.if_icmp .ne 197, 3) := by decide +kernel
theorem dL_shots_848 : decode (mC M_L_shots) 848 = .ok (.aload_n 0, 1) := by decide +kernel
theorem dL_shots_849 : decode (mC M_L_shots) 849 = .ok (.iconst 3, 1) := by decide +kernel
theorem dL_shots_850 : decode (mC M_L_shots) 850 = .ok (.iconst 2, 1) := by decide +kernel
theorem dL_shots_851 : decode (mC M_L_shots) 851 = .ok (.iconst 2, 1) := by decide +kernel
theorem dL_shots_852 : decode (mC M_L_shots) 852 = .ok (.invokevirtual 36, 3) := by decide +kernel
theorem dL_shots_855 : decode (mC M_L_shots) 855 = .ok (.bipush (-4), 2) := by decide +kernel
theorem dL_shots_857 : decode (mC M_L_shots) 857 = .ok (.if_icmp .ne 185, 3) := by decide +kernel
theorem dL_shots_860 : decode (mC M_L_shots) 860 = .ok (.aload_n 0, 1) := by decide +kernel
theorem dL_shots_861 : decode (mC M_L_shots) 861 = .ok (.iconst 3, 1) := by decide +kernel
theorem dL_shots_862 : decode (mC M_L_shots) 862 = .ok (.iconst 1, 1) := by decide +kernel
theorem dL_shots_863 : decode (mC M_L_shots) 863 = .ok (.iconst 0, 1) := by decide +kernel
theorem dL_shots_864 : decode (mC M_L_shots) 864 = .ok (.bipush 7, 2) := by decide +kernel
theorem dL_shots_866 : decode (mC M_L_shots) 866 = .ok (.iconst 0, 1) := by decide +kernel
theorem dL_shots_867 : decode (mC M_L_shots) 867 = .ok (.iconst 4, 1) := by decide +kernel
theorem dL_shots_868 : decode (mC M_L_shots) 868 = .ok (.invokestatic 144, 3) := by decide +kernel
theorem dL_shots_871 : decode (mC M_L_shots) 871 = .ok (.ifCond .eq 171, 3) := by decide +kernel
theorem dL_shots_874 : decode (mC M_L_shots) 874 = .ok (.aload_n 0, 1) := by decide +kernel
theorem dL_shots_875 : decode (mC M_L_shots) 875 = .ok (.iconst 3, 1) := by decide +kernel
theorem dL_shots_876 : decode (mC M_L_shots) 876 = .ok (.iconst 1, 1) := by decide +kernel
theorem dL_shots_877 : decode (mC M_L_shots) 877 = .ok (.bipush 13, 2) := by decide +kernel
theorem dL_shots_879 : decode (mC M_L_shots) 879 = .ok (.iconst 4, 1) := by decide +kernel
theorem dL_shots_880 : decode (mC M_L_shots) 880 = .ok (.invokestatic 148, 3) := by decide +kernel
theorem dL_shots_883 : decode (mC M_L_shots) 883 = .ok (.ifCond .eq 159, 3) := by decide +kernel
theorem dL_shots_886 : decode (mC M_L_shots) 886 = .ok (.aload_n 0, 1) := by decide +kernel
theorem dL_shots_887 : decode (mC M_L_shots) 887 = .ok (.iconst 3, 1) := by decide +kernel
theorem dL_shots_888 : decode (mC M_L_shots) 888 = .ok (.iconst 1, 1) := by decide +kernel
theorem dL_shots_889 : decode (mC M_L_shots) 889 = .ok (.bipush 18, 2) := by decide +kernel
theorem dL_shots_891 : decode (mC M_L_shots) 891 = .ok (.invokevirtual 36, 3) := by decide +kernel
theorem dL_shots_894 : decode (mC M_L_shots) 894 = .ok (.bipush (-4), 2) := by decide +kernel
theorem dL_shots_896 : decode (mC M_L_shots) 896 = .ok (.if_icmp .ne 146, 3) := by decide +kernel
theorem dL_shots_899 : decode (mC M_L_shots) 899 = .ok (.aload_n 0, 1) := by decide +kernel
theorem dL_shots_900 : decode (mC M_L_shots) 900 = .ok (.iconst 3, 1) := by decide +kernel
theorem dL_shots_901 : decode (mC M_L_shots) 901 = .ok (.bipush 59, 2) := by decide +kernel
theorem dL_shots_903 : decode (mC M_L_shots) 903 = .ok (.bipush 74, 2) := by decide +kernel
theorem dL_shots_905 : decode (mC M_L_shots) 905 = .ok (.bipush 93, 2) := by decide +kernel
theorem dL_shots_907 : decode (mC M_L_shots) 907 = .ok (.bipush 91, 2) := by decide +kernel
theorem dL_shots_909 : decode (mC M_L_shots) 909 = .ok (.bipush 76, 2) := by decide +kernel
theorem dL_shots_911 : decode (mC M_L_shots) 911 = .ok (.bipush 77, 2) := by decide +kernel
theorem dL_shots_913 : decode (mC M_L_shots) 913 = .ok (.invokestatic 140, 3) := by decide +kernel
theorem dL_shots_916 : decode (mC M_L_shots) 916 = .ok (.ifCond .eq 126, 3) := by decide +kernel
theorem dL_shots_919 : decode (mC M_L_shots) 919 = .ok (.aload_n 0, 1) := by decide +kernel
theorem dL_shots_920 : decode (mC M_L_shots) 920 = .ok (.iconst 3, 1) := by decide +kernel
theorem dL_shots_921 : decode (mC M_L_shots) 921 = .ok (.iconst 1, 1) := by decide +kernel
theorem dL_shots_922 : decode (mC M_L_shots) 922 = .ok (.iconst 0, 1) := by decide +kernel
theorem dL_shots_923 : decode (mC M_L_shots) 923 = .ok (.bipush 6, 2) := by decide +kernel
theorem dL_shots_925 : decode (mC M_L_shots) 925 = .ok (.iconst 4, 1) := by decide +kernel
theorem dL_shots_926 : decode (mC M_L_shots) 926 = .ok (.iconst 4, 1) := by decide +kernel
theorem dL_shots_927 : decode (mC M_L_shots) 927 = .ok (.invokestatic 144, 3) := by decide +kernel
theorem dL_shots_930 : decode (mC M_L_shots) 930 = .ok (.ifCond .eq 112, 3) := by decide +kernel
theorem dL_shots_933 : decode (mC M_L_shots) 933 = .ok (.aload_n 0, 1) := by decide +kernel
theorem dL_shots_934 : decode (mC M_L_shots) 934 = .ok (.iconst 0, 1) := by decide +kernel
theorem dL_shots_935 : decode (mC M_L_shots) 935 = .ok (.invokevirtual 20, 3) := by decide +kernel
theorem dL_shots_938 : decode (mC M_L_shots) 938 = .ok (.ifCond .ne 104, 3) := by decide +kernel
theorem dL_shots_941 : decode (mC M_L_shots) 941 = .ok (.aload_n 0, 1) := by decide +kernel
theorem dL_shots_942 : decode (mC M_L_shots) 942 = .ok (.iconst 0, 1) := by decide +kernel
theorem dL_shots_943 : decode (mC M_L_shots) 943 = .ok (.invokevirtual 23, 3) := by decide +kernel
theorem dL_shots_946 : decode (mC M_L_shots) 946 = .ok (.iconst 4, 1) := by decide +kernel
theorem dL_shots_947 : decode (mC M_L_shots) 947 = .ok (.if_icmp .ne 95, 3) := by decide +kernel
theorem dL_shots_950 : decode (mC M_L_shots) 950 = .ok (.aload_n 0, 1) := by decide +kernel
theorem dL_shots_951 : decode (mC M_L_shots) 951 = .ok (.iconst 0, 1) := by decide +kernel
theorem dL_shots_952 : decode (mC M_L_shots) 952 = .ok (.invokevirtual 77, 3) := by decide +kernel
theorem dL_shots_955 : decode (mC M_L_shots) 955 = .ok (.iconst 1, 1) := by decide +kernel
theorem dL_shots_956 : decode (mC M_L_shots) 956 = .ok (.if_icmp .ne 86, 3) := by decide +kernel
theorem dL_shots_959 : decode (mC M_L_shots) 959 = .ok (.aload_n 0, 1) := by decide +kernel
theorem dL_shots_960 : decode (mC M_L_shots) 960 = .ok (.iconst 0, 1) := by decide +kernel
theorem dL_shots_961 : decode (mC M_L_shots) 961 = .ok (.iconst 0, 1) := by decide +kernel
theorem dL_shots_962 : decode (mC M_L_shots) 962 = .ok (.iconst 3, 1) := by decide +kernel
theorem dL_shots_963 : decode (mC M_L_shots) 963 = .ok (.iconst 1, 1) := by decide +kernel
theorem dL_shots_964 : decode (mC M_L_shots) 964 = .ok (.invokevirtual 29, 3) := by decide +kernel
theorem dL_shots_967 : decode (mC M_L_shots) 967 = .ok (.iconst 4, 1) := by decide +kernel
theorem dL_shots_968 : decode (mC M_L_shots) 968 = .ok (.if_icmp .ne 74, 3) := by decide +kernel
theorem dL_shots_971 : decode (mC M_L_shots) 971 = .ok (.aload_n 0, 1) := by decide +kernel
theorem dL_shots_972 : decode (mC M_L_shots) 972 = .ok (.iconst 4, 1) := by decide +kernel
theorem dL_shots_973 : decode (mC M_L_shots) 973 = .ok (.iconst 1, 1) := by decide +kernel
theorem dL_shots_974 : decode (mC M_L_shots) 974 = .ok (.bipush 6, 2) := by decide +kernel
theorem dL_shots_976 : decode (mC M_L_shots) 976 = .ok (.invokevirtual 36, 3) := by decide +kernel
theorem dL_shots_979 : decode (mC M_L_shots) 979 = .ok (.bipush (-4), 2) := by decide +kernel
theorem dL_shots_981 : decode (mC M_L_shots) 981 = .ok (.if_icmp .ne 61, 3) := by decide +kernel
theorem dL_shots_984 : decode (mC M_L_shots) 984 = .ok (.aload_n 0, 1) := by decide +kernel
theorem dL_shots_985 : decode (mC M_L_shots) 985 = .ok (.iconst 4, 1) := by decide +kernel
theorem dL_shots_986 : decode (mC M_L_shots) 986 = .ok (.bipush 67, 2) := by decide +kernel
theorem dL_shots_988 : decode (mC M_L_shots) 988 = .ok (.bipush 74, 2) := by decide +kernel
theorem dL_shots_990 : decode (mC M_L_shots) 990 = .ok (.bipush 59, 2) := by decide +kernel
theorem dL_shots_992 : decode (mC M_L_shots) 992 = .ok (.bipush 91, 2) := by decide +kernel
theorem dL_shots_994 : decode (mC M_L_shots) 994 = .ok (.bipush 76, 2) := by decide +kernel
theorem dL_shots_996 : decode (mC M_L_shots) 996 = .ok (.bipush 77, 2) := by decide +kernel
theorem dL_shots_998 : decode (mC M_L_shots) 998 = .ok (.invokestatic 140, 3) := by decide +kernel
theorem dL_shots_1001 : decode (mC M_L_shots) 1001 = .ok (.ifCond .eq 41, 3) := by decide +kernel
theorem dL_shots_1004 : decode (mC M_L_shots) 1004 = .ok (.aload_n 0, 1) := by decide +kernel
theorem dL_shots_1005 : decode (mC M_L_shots) 1005 = .ok (.iconst 4, 1) := by decide +kernel
theorem dL_shots_1006 : decode (mC M_L_shots) 1006 = .ok (.iconst 1, 1) := by decide +kernel
theorem dL_shots_1007 : decode (mC M_L_shots) 1007 = .ok (.iconst 0, 1) := by decide +kernel
theorem dL_shots_1008 : decode (mC M_L_shots) 1008 = .ok (.iconst 3, 1) := by decide +kernel
theorem dL_shots_1009 : decode (mC M_L_shots) 1009 = .ok (.iconst 0, 1) := by decide +kernel
theorem dL_shots_1010 : decode (mC M_L_shots) 1010 = .ok (.iconst 4, 1) := by decide +kernel
theorem dL_shots_1011 : decode (mC M_L_shots) 1011 = .ok (.invokestatic 144, 3) := by decide +kernel
theorem dL_shots_1014 : decode (mC M_L_shots) 1014 = .ok (.ifCond .eq 28, 3) := by decide +kernel
theorem dL_shots_1017 : decode (mC M_L_shots) 1017 = .ok (.aload_n 0, 1) := by decide +kernel
theorem dL_shots_1018 : decode (mC M_L_shots) 1018 = .ok (.bipush 9, 2) := by decide +kernel
theorem dL_shots_1020 : decode (mC M_L_shots) 1020 = .ok (.iconst 0, 1) := by decide +kernel
theorem dL_shots_1021 : decode (mC M_L_shots) 1021 = .ok (.iconst 2, 1) := by decide +kernel
theorem dL_shots_1022 : decode (mC M_L_shots) 1022 = .ok (.iconst 2, 1) := by decide +kernel
theorem dL_shots_1023 : decode (mC M_L_shots) 1023 = .ok (.invokestatic 122, 3) := by decide +kernel
theorem dL_shots_1026 : decode (mC M_L_shots) 1026 = .ok (.bipush (-73), 2) := by decide +kernel
theorem dL_shots_1028 : decode (mC M_L_shots) 1028 = .ok (.if_icmp .ne 14, 3) := by decide +kernel
theorem dL_shots_1031 : decode (mC M_L_shots) 1031 = .ok (.aload_n 0, 1) := by decide +kernel
theorem dL_shots_1032 : decode (mC M_L_shots) 1032 = .ok (.iconst 0, 1) := by decide +kernel
theorem dL_shots_1033 : decode (mC M_L_shots) 1033 = .ok (.iconst 2, 1) := by decide +kernel
theorem dL_shots_1034 : decode (mC M_L_shots) 1034 = .ok (.iconst 1, 1) := by decide +kernel
theorem dL_shots_1035 : decode (mC M_L_shots) 1035 = .ok (.iconst 1, 1) := by decide +kernel
theorem dL_shots_1036 : decode (mC M_L_shots) 1036 = .ok (.invokestatic 148, 3) := by decide +kernel
theorem dL_shots_1039 : decode (mC M_L_shots) 1039 = .ok (.ifCond .ne 5, 3) := by decide +kernel
theorem dL_shots_1042 : decode (mC M_L_shots) 1042 = .ok (.iconst 0, 1) := by decide +kernel
theorem dL_shots_1043 : decode (mC M_L_shots) 1043 = .ok (.ireturn, 1) := by decide +kernel
theorem dL_shots_1044 : decode (mC M_L_shots) 1044 = .ok (.aload_n 0, 1) := by decide +kernel
theorem dL_shots_1045 : decode (mC M_L_shots) 1045 = .ok (.iconst 1, 1) := by decide +kernel
theorem dL_shots_1046 : decode (mC M_L_shots) 1046 = .ok (.invokevirtual 20, 3) := by decide +kernel
theorem dL_shots_1049 : decode (mC M_L_shots) 1049 = .ok (.ifCond .ne 73, 3) := by decide +kernel
theorem dL_shots_1052 : decode (mC M_L_shots) 1052 = .ok (.aload_n 0, 1) := by decide +kernel
theorem dL_shots_1053 : decode (mC M_L_shots) 1053 = .ok (.bipush 8, 2) := by decide +kernel
theorem dL_shots_1055 : decode (mC M_L_shots) 1055 = .ok (.iconst 0, 1) := by decide +kernel
theorem dL_shots_1056 : decode (mC M_L_shots) 1056 = .ok (.iconst 1, 1) := by decide +kernel
theorem dL_shots_1057 : decode (mC M_L_shots) 1057 = .ok (.iconst 0, 1) := by decide +kernel
theorem dL_shots_1058 : decode (mC M_L_shots) 1058 = .ok (.invokestatic 122, 3) := by decide +kernel
theorem dL_shots_1061 : decode (mC M_L_shots) 1061 = .ok (.bipush (-73), 2) := by decide +kernel
theorem dL_shots_1063 : decode (mC M_L_shots) 1063 = .ok (.if_icmp .ne 59, 3) := by decide +kernel
theorem dL_shots_1066 : decode (mC M_L_shots) 1066 = .ok (.aload_n 0, 1) := by decide +kernel
theorem dL_shots_1067 : decode (mC M_L_shots) 1067 = .ok (.iconst 1, 1) := by decide +kernel
theorem dL_shots_1068 : decode (mC M_L_shots) 1068 = .ok (.invokevirtual 23, 3) := by decide +kernel
theorem dL_shots_1071 : decode (mC M_L_shots) 1071 = .ok (.iconst 4, 1) := by decide +kernel
theorem dL_shots_1072 : decode (mC M_L_shots) 1072 = .ok (.if_icmp .ne 50, 3) := by decide +kernel
theorem dL_shots_1075 : decode (mC M_L_shots) 1075 = .ok (.aload_n 0, 1) := by decide +kernel
theorem dL_shots_1076 : decode (mC M_L_shots) 1076 = .ok (.iconst 0, 1) := by decide +kernel
theorem dL_shots_1077 : decode (mC M_L_shots) 1077 = .ok (.iconst 1, 1) := by decide +kernel
theorem dL_shots_1078 : decode (mC M_L_shots) 1078 = .ok (.invokevirtual 33, 3) := by decide +kernel
theorem dL_shots_1081 : decode (mC M_L_shots) 1081 = .ok (.iconst 2, 1) := by decide +kernel
theorem dL_shots_1082 : decode (mC M_L_shots) 1082 = .ok (.if_icmp .ne 40, 3) := by decide +kernel
theorem dL_shots_1085 : decode (mC M_L_shots) 1085 = .ok (.aload_n 0, 1) := by decide +kernel
theorem dL_shots_1086 : decode (mC M_L_shots) 1086 = .ok (.iconst 1, 1) := by decide +kernel
theorem dL_shots_1087 : decode (mC M_L_shots) 1087 = .ok (.invokevirtual 59, 3) := by decide +kernel
theorem dL_shots_1090 : decode (mC M_L_shots) 1090 = .ok (.ifCond .ne 32, 3) := by decide +kernel
theorem dL_shots_1093 : decode (mC M_L_shots) 1093 = .ok (.aload_n 0, 1) := by decide +kernel
theorem dL_shots_1094 : decode (mC M_L_shots) 1094 = .ok (.iconst 1, 1) := by decide +kernel
theorem dL_shots_1095 : decode (mC M_L_shots) 1095 = .ok (.invokevirtual 77, 3) := by decide +kernel
theorem dL_shots_1098 : decode (mC M_L_shots) 1098 = .ok (.iconst 1, 1) := by decide +kernel
theorem dL_shots_1099 : decode (mC M_L_shots) 1099 = .ok (.if_icmp .ne 23, 3) := by decide +kernel
theorem dL_shots_1102 : decode (mC M_L_shots) 1102 = .ok (.aload_n 0, 1) := by decide +kernel
theorem dL_shots_1103 : decode (mC M_L_shots) 1103 = .ok (.iconst 2, 1) := by decide +kernel
theorem dL_shots_1104 : decode (mC M_L_shots) 1104 = .ok (.invokevirtual 68, 3) := by decide +kernel
theorem dL_shots_1107 : decode (mC M_L_shots) 1107 = .ok (.ifCond .ne 15, 3) := by decide +kernel
theorem dL_shots_1110 : decode (mC M_L_shots) 1110 = .ok (.aload_n 0, 1) := by decide +kernel
theorem dL_shots_1111 : decode (mC M_L_shots) 1111 = .ok (.iconst 5, 1) := by decide +kernel
theorem dL_shots_1112 : decode (mC M_L_shots) 1112 = .ok (.invokestatic 132, 3) := by decide +kernel
theorem dL_shots_1115 : decode (mC M_L_shots) 1115 = .ok (.ifCond .eq 7, 3) := by decide +kernel
theorem dL_shots_1118 : decode (mC M_L_shots) 1118 = .ok (.iconst 1, 1) := by decide +kernel
theorem dL_shots_1119 : decode (mC M_L_shots) 1119 = .ok (.goto 4, 3) := by decide +kernel
theorem dL_shots_1122 : decode (mC M_L_shots) 1122 = .ok (.iconst 0, 1) := by decide +kernel
theorem dL_shots_1123 : decode (mC M_L_shots) 1123 = .ok (.ireturn, 1) := by decide +kernel
