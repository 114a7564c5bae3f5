-- ===== decode rows (as printed of the program) =====
theorem dX0_init_0 : decode (mC M_X0_init) 0 = .ok (.aload_n 0, 1) := by decide +kernel
theorem dX0_init_1 : decode (mC M_X0_init) 1 = .ok (.invokespecial 3, 3) := by decide +kernel
theorem dX0_init_4 : decode (mC M_X0_init) 4 = .ok (.aload_n 0, 1) := by decide +kernel
theorem dX0_init_5 : decode (mC M_X0_init) 5 = .ok (.sipush 128, 3) := by decide +kernel
theorem dX0_init_8 : decode (mC M_X0_init) 8 = .ok (.newarray .int, 2) := by decide +kernel
theorem dX0_init_10 : decode (mC M_X0_init) 10 = .ok (.putfield 9, 3) := by decide +kernel
theorem dX0_init_13 : decode (mC M_X0_init) 13 = .ok (.return_, 1) := by decide +kernel
theorem dX0_lay_0 : decode (mC M_X0_lay) 0 = .ok (.iconst 0, 1) := by decide +kernel
theorem dX0_lay_1 : decode (mC M_X0_lay) 1 = .ok (.istore_n 1, 1) := by decide +kernel
theorem dX0_lay_2 : decode (mC M_X0_lay) 2 = .ok (.iload_n 1, 1) := by decide +kernel
theorem dX0_lay_3 : decode (mC M_X0_lay) 3 = .ok (.aload_n 0, 1) := by decide +kernel
theorem dX0_lay_4 : decode (mC M_X0_lay) 4 = .ok (.getfield 9, 3) := by decide +kernel
theorem dX0_lay_7 : decode (mC M_X0_lay) 7 = .ok (.arraylength, 1) := by decide +kernel
theorem dX0_lay_8 : decode (mC M_X0_lay) 8 = .ok (.if_icmp .ge 16, 3) := by decide +kernel
theorem dX0_lay_11 : decode (mC M_X0_lay) 11 = .ok (.aload_n 0, 1) := by decide +kernel
theorem dX0_lay_12 : decode (mC M_X0_lay) 12 = .ok (.getfield 9, 3) := by decide +kernel
theorem dX0_lay_15 : decode (mC M_X0_lay) 15 = .ok (.iload_n 1, 1) := by decide +kernel
theorem dX0_lay_16 : decode (mC M_X0_lay) 16 = .ok (.iconst 0, 1) := by decide +kernel
theorem dX0_lay_17 : decode (mC M_X0_lay) 17 = .ok (.iastore, 1) := by decide +kernel
theorem dX0_lay_18 : decode (mC M_X0_lay) 18 = .ok (.iinc 1 1, 3) := by decide +kernel
theorem dX0_lay_21 : decode (mC M_X0_lay) 21 = .ok (.goto (-19), 3) := by decide +kernel
theorem dX0_lay_24 : decode (mC M_X0_lay) 24 = .ok (.iconst 0, 1) := by decide +kernel
theorem dX0_lay_25 : decode (mC M_X0_lay) 25 = .ok (.istore_n 1, 1) := by decide +kernel
theorem dX0_lay_26 : decode (mC M_X0_lay) 26 = .ok (.iload_n 1, 1) := by decide +kernel
theorem dX0_lay_27 : decode (mC M_X0_lay) 27 = .ok (.bipush 8, 2) := by decide +kernel
theorem dX0_lay_29 : decode (mC M_X0_lay) 29 = .ok (.if_icmp .ge 22, 3) := by decide +kernel
theorem dX0_lay_32 : decode (mC M_X0_lay) 32 = .ok (.aload_n 0, 1) := by decide +kernel
theorem dX0_lay_33 : decode (mC M_X0_lay) 33 = .ok (.aload_n 0, 1) := by decide +kernel
theorem dX0_lay_34 : decode (mC M_X0_lay) 34 = .ok (.getfield 15, 3) := by decide +kernel
theorem dX0_lay_37 : decode (mC M_X0_lay) 37 = .ok (.iload_n 1, 1) := by decide +kernel
theorem dX0_lay_38 : decode (mC M_X0_lay) 38 = .ok (.iaload, 1) := by decide +kernel
theorem dX0_lay_39 : decode (mC M_X0_lay) 39 = .ok (.iload_n 1, 1) := by decide +kernel
theorem dX0_lay_40 : decode (mC M_X0_lay) 40 = .ok (.iconst 1, 1) := by decide +kernel
theorem dX0_lay_41 : decode (mC M_X0_lay) 41 = .ok (.iadd, 1) := by decide +kernel
theorem dX0_lay_42 : decode (mC M_X0_lay) 42 = .ok (.invokevirtual 18, 3) := by decide +kernel
theorem dX0_lay_45 : decode (mC M_X0_lay) 45 = .ok (.iinc 1 1, 3) := by decide +kernel
theorem dX0_lay_48 : decode (mC M_X0_lay) 48 = .ok (.goto (-22), 3) := by decide +kernel
theorem dX0_lay_51 : decode (mC M_X0_lay) 51 = .ok (.return_, 1) := by decide +kernel
theorem dX0_ballBeside_0 : decode (mC M_X0_ballBeside) 0 = .ok (.iload_n 1, 1) := by decide +kernel
theorem dX0_ballBeside_1 : decode (mC M_X0_ballBeside) 1 = .ok (.ifCond .lt 9, 3) := by decide +kernel
theorem dX0_ballBeside_4 : decode (mC M_X0_ballBeside) 4 = .ok (.iload_n 1, 1) := by decide +kernel
theorem dX0_ballBeside_5 : decode (mC M_X0_ballBeside) 5 = .ok (.bipush 8, 2) := by decide +kernel
theorem dX0_ballBeside_7 : decode (mC M_X0_ballBeside) 7 = .ok (.if_icmp .lt 5, 3) := by decide +kernel
theorem dX0_ballBeside_10 : decode (mC M_X0_ballBeside) 10 = .ok (.iconst (-1), 1) := by decide +kernel
theorem dX0_ballBeside_11 : decode (mC M_X0_ballBeside) 11 = .ok (.ireturn, 1) := by decide +kernel
theorem dX0_ballBeside_12 : decode (mC M_X0_ballBeside) 12 = .ok (.aload_n 0, 1) := by decide +kernel
theorem dX0_ballBeside_13 : decode (mC M_X0_ballBeside) 13 = .ok (.getfield 15, 3) := by decide +kernel
theorem dX0_ballBeside_16 : decode (mC M_X0_ballBeside) 16 = .ok (.iload_n 1, 1) := by decide +kernel
theorem dX0_ballBeside_17 : decode (mC M_X0_ballBeside) 17 = .ok (.iaload, 1) := by decide +kernel
theorem dX0_ballBeside_18 : decode (mC M_X0_ballBeside) 18 = .ok (.iload_n 2, 1) := by decide +kernel
theorem dX0_ballBeside_19 : decode (mC M_X0_ballBeside) 19 = .ok (.invokestatic 22, 3) := by decide +kernel
theorem dX0_ballBeside_22 : decode (mC M_X0_ballBeside) 22 = .ok (.istore_n 3, 1) := by decide +kernel
theorem dX0_ballBeside_23 : decode (mC M_X0_ballBeside) 23 = .ok (.iload_n 3, 1) := by decide +kernel
theorem dX0_ballBeside_24 : decode (mC M_X0_ballBeside) 24 = .ok (.ifCond .lt 23, 3) := by decide +kernel
theorem dX0_ballBeside_27 : decode (mC M_X0_ballBeside) 27 = .ok (.iload_n 3, 1) := by decide +kernel
theorem dX0_ballBeside_28 : decode (mC M_X0_ballBeside) 28 = .ok (.aload_n 0, 1) := by decide +kernel
theorem dX0_ballBeside_29 : decode (mC M_X0_ballBeside) 29 = .ok (.getfield 9, 3) := by decide +kernel
theorem dX0_ballBeside_32 : decode (mC M_X0_ballBeside) 32 = .ok (.arraylength, 1) := by decide +kernel
theorem dX0_ballBeside_33 : decode (mC M_X0_ballBeside) 33 = .ok (.if_icmp .ge 14, 3) := by decide +kernel
theorem dX0_ballBeside_36 : decode (mC M_X0_ballBeside) 36 = .ok (.aload_n 0, 1) := by decide +kernel
theorem dX0_ballBeside_37 : decode (mC M_X0_ballBeside) 37 = .ok (.getfield 9, 3) := by decide +kernel
theorem dX0_ballBeside_40 : decode (mC M_X0_ballBeside) 40 = .ok (.iload_n 3, 1) := by decide +kernel
theorem dX0_ballBeside_41 : decode (mC M_X0_ballBeside) 41 = .ok (.iaload, 1) := by decide +kernel
theorem dX0_ballBeside_42 : decode (mC M_X0_ballBeside) 42 = .ok (.iconst 1, 1) := by decide +kernel
theorem dX0_ballBeside_43 : decode (mC M_X0_ballBeside) 43 = .ok (.isub, 1) := by decide +kernel
theorem dX0_ballBeside_44 : decode (mC M_X0_ballBeside) 44 = .ok (.goto 4, 3) := by decide +kernel
theorem dX0_ballBeside_47 : decode (mC M_X0_ballBeside) 47 = .ok (.iconst (-1), 1) := by decide +kernel
theorem dX0_ballBeside_48 : decode (mC M_X0_ballBeside) 48 = .ok (.ireturn, 1) := by decide +kernel
theorem dX0_note_0 : decode (mC M_X0_note) 0 = .ok (.aload_n 0, 1) := by decide +kernel
theorem dX0_note_1 : decode (mC M_X0_note) 1 = .ok (.iload_n 2, 1) := by decide +kernel
theorem dX0_note_2 : decode (mC M_X0_note) 2 = .ok (.iconst 0, 1) := by decide +kernel
theorem dX0_note_3 : decode (mC M_X0_note) 3 = .ok (.invokevirtual 18, 3) := by decide +kernel
theorem dX0_note_6 : decode (mC M_X0_note) 6 = .ok (.aload_n 0, 1) := by decide +kernel
theorem dX0_note_7 : decode (mC M_X0_note) 7 = .ok (.iload_n 3, 1) := by decide +kernel
theorem dX0_note_8 : decode (mC M_X0_note) 8 = .ok (.iload_n 1, 1) := by decide +kernel
theorem dX0_note_9 : decode (mC M_X0_note) 9 = .ok (.iconst 1, 1) := by decide +kernel
theorem dX0_note_10 : decode (mC M_X0_note) 10 = .ok (.iadd, 1) := by decide +kernel
theorem dX0_note_11 : decode (mC M_X0_note) 11 = .ok (.invokevirtual 18, 3) := by decide +kernel
theorem dX0_note_14 : decode (mC M_X0_note) 14 = .ok (.return_, 1) := by decide +kernel
theorem dX0_put_0 : decode (mC M_X0_put) 0 = .ok (.iload_n 1, 1) := by decide +kernel
theorem dX0_put_1 : decode (mC M_X0_put) 1 = .ok (.ifCond .lt 19, 3) := by decide +kernel
theorem dX0_put_4 : decode (mC M_X0_put) 4 = .ok (.iload_n 1, 1) := by decide +kernel
theorem dX0_put_5 : decode (mC M_X0_put) 5 = .ok (.aload_n 0, 1) := by decide +kernel
theorem dX0_put_6 : decode (mC M_X0_put) 6 = .ok (.getfield 9, 3) := by decide +kernel
theorem dX0_put_9 : decode (mC M_X0_put) 9 = .ok (.arraylength, 1) := by decide +kernel
theorem dX0_put_10 : decode (mC M_X0_put) 10 = .ok (.if_icmp .ge 10, 3) := by decide +kernel
theorem dX0_put_13 : decode (mC M_X0_put) 13 = .ok (.aload_n 0, 1) := by decide +kernel
theorem dX0_put_14 : decode (mC M_X0_put) 14 = .ok (.getfield 9, 3) := by decide +kernel
theorem dX0_put_17 : decode (mC M_X0_put) 17 = .ok (.iload_n 1, 1) := by decide +kernel
theorem dX0_put_18 : decode (mC M_X0_put) 18 = .ok (.iload_n 2, 1) := by decide +kernel
theorem dX0_put_19 : decode (mC M_X0_put) 19 = .ok (.iastore, 1) := by decide +kernel
theorem dX0_put_20 : decode (mC M_X0_put) 20 = .ok (.return_, 1) := by decide +kernel
theorem dX1_init_0 : decode (mC M_X1_init) 0 = .ok (.aload_n 0, 1) := by decide +kernel
theorem dX1_init_1 : decode (mC M_X1_init) 1 = .ok (.invokespecial 3, 3) := by decide +kernel
theorem dX1_init_4 : decode (mC M_X1_init) 4 = .ok (.return_, 1) := by decide +kernel
theorem dX1_isHeldBy_0 : decode (mC M_X1_isHeldBy) 0 = .ok (.aload_n 0, 1) := by decide +kernel
theorem dX1_isHeldBy_1 : decode (mC M_X1_isHeldBy) 1 = .ok (.getfield 9, 3) := by decide +kernel
theorem dX1_isHeldBy_4 : decode (mC M_X1_isHeldBy) 4 = .ok (.ifnull 18, 3) := by decide +kernel
theorem dX1_isHeldBy_7 : decode (mC M_X1_isHeldBy) 7 = .ok (.aload_n 0, 1) := by decide +kernel
theorem dX1_isHeldBy_8 : decode (mC M_X1_isHeldBy) 8 = .ok (.getfield 9, 3) := by decide +kernel
theorem dX1_isHeldBy_11 : decode (mC M_X1_isHeldBy) 11 = .ok (.getfield 15, 3) := by decide +kernel
theorem dX1_isHeldBy_14 : decode (mC M_X1_isHeldBy) 14 = .ok (.iload_n 1, 1) := by decide +kernel
theorem dX1_isHeldBy_15 : decode (mC M_X1_isHeldBy) 15 = .ok (.if_icmp .ne 7, 3) := by decide +kernel
theorem dX1_isHeldBy_18 : decode (mC M_X1_isHeldBy) 18 = .ok (.iconst 1, 1) := by decide +kernel
theorem dX1_isHeldBy_19 : decode (mC M_X1_isHeldBy) 19 = .ok (.goto 4, 3) := by decide +kernel
theorem dX1_isHeldBy_22 : decode (mC M_X1_isHeldBy) 22 = .ok (.iconst 0, 1) := by decide +kernel
theorem dX1_isHeldBy_23 : decode (mC M_X1_isHeldBy) 23 = .ok (.ireturn, 1) := by decide +kernel
theorem dX1_wearOff_0 : decode (mC M_X1_wearOff) 0 = .ok (.aload_n 0, 1) := by decide +kernel
theorem dX1_wearOff_1 : decode (mC M_X1_wearOff) 1 = .ok (.bipush 100, 2) := by decide +kernel
theorem dX1_wearOff_3 : decode (mC M_X1_wearOff) 3 = .ok (.aload_n 0, 1) := by decide +kernel
theorem dX1_wearOff_4 : decode (mC M_X1_wearOff) 4 = .ok (.getfield 21, 3) := by decide +kernel
theorem dX1_wearOff_7 : decode (mC M_X1_wearOff) 7 = .ok (.iload_n 1, 1) := by decide +kernel
theorem dX1_wearOff_8 : decode (mC M_X1_wearOff) 8 = .ok (.iconst 4, 1) := by decide +kernel
theorem dX1_wearOff_9 : decode (mC M_X1_wearOff) 9 = .ok (.idiv, 1) := by decide +kernel
theorem dX1_wearOff_10 : decode (mC M_X1_wearOff) 10 = .ok (.iadd, 1) := by decide +kernel
theorem dX1_wearOff_11 : decode (mC M_X1_wearOff) 11 = .ok (.iconst 1, 1) := by decide +kernel
theorem dX1_wearOff_12 : decode (mC M_X1_wearOff) 12 = .ok (.iadd, 1) := by decide +kernel
theorem dX1_wearOff_13 : decode (mC M_X1_wearOff) 13 = .ok (.invokestatic 24, 3) := by decide +kernel
theorem dX1_wearOff_16 : decode (mC M_X1_wearOff) 16 = .ok (.putfield 21, 3) := by decide +kernel
theorem dX1_wearOff_19 : decode (mC M_X1_wearOff) 19 = .ok (.return_, 1) := by decide +kernel
theorem dX2_init_0 : decode (mC M_X2_init) 0 = .ok (.aload_n 0, 1) := by decide +kernel
theorem dX2_init_1 : decode (mC M_X2_init) 1 = .ok (.invokespecial 3, 3) := by decide +kernel
theorem dX2_init_4 : decode (mC M_X2_init) 4 = .ok (.aload_n 0, 1) := by decide +kernel
theorem dX2_init_5 : decode (mC M_X2_init) 5 = .ok (.getstatic 9, 3) := by decide +kernel
theorem dX2_init_8 : decode (mC M_X2_init) 8 = .ok (.invokevirtual 13, 3) := by decide +kernel
theorem dX2_init_11 : decode (mC M_X2_init) 11 = .ok (.checkcast 14, 3) := by decide +kernel
theorem dX2_init_14 : decode (mC M_X2_init) 14 = .ok (.putfield 18, 3) := by decide +kernel
theorem dX2_init_17 : decode (mC M_X2_init) 17 = .ok (.aload_n 0, 1) := by decide +kernel
theorem dX2_init_18 : decode (mC M_X2_init) 18 = .ok (.iconst (-1), 1) := by decide +kernel
theorem dX2_init_19 : decode (mC M_X2_init) 19 = .ok (.putfield 23, 3) := by decide +kernel
theorem dX2_init_22 : decode (mC M_X2_init) 22 = .ok (.aload_n 0, 1) := by decide +kernel
theorem dX2_init_23 : decode (mC M_X2_init) 23 = .ok (.iload_n 1, 1) := by decide +kernel
theorem dX2_init_24 : decode (mC M_X2_init) 24 = .ok (.putfield 27, 3) := by decide +kernel
theorem dX2_init_27 : decode (mC M_X2_init) 27 = .ok (.aload_n 0, 1) := by decide +kernel
theorem dX2_init_28 : decode (mC M_X2_init) 28 = .ok (.iload_n 2, 1) := by decide +kernel
theorem dX2_init_29 : decode (mC M_X2_init) 29 = .ok (.putfield 30, 3) := by decide +kernel
theorem dX2_init_32 : decode (mC M_X2_init) 32 = .ok (.aload_n 0, 1) := by decide +kernel
theorem dX2_init_33 : decode (mC M_X2_init) 33 = .ok (.iload_n 3, 1) := by decide +kernel
theorem dX2_init_34 : decode (mC M_X2_init) 34 = .ok (.putfield 33, 3) := by decide +kernel
theorem dX2_init_37 : decode (mC M_X2_init) 37 = .ok (.aload_n 0, 1) := by decide +kernel
theorem dX2_init_38 : decode (mC M_X2_init) 38 = .ok (.iload 4, 2) := by decide +kernel
theorem dX2_init_40 : decode (mC M_X2_init) 40 = .ok (.putfield 36, 3) := by decide +kernel
theorem dX2_init_43 : decode (mC M_X2_init) 43 = .ok (.return_, 1) := by decide +kernel
theorem dX2_player_0 : decode (mC M_X2_player) 0 = .ok (.aload_n 0, 1) := by decide +kernel
theorem dX2_player_1 : decode (mC M_X2_player) 1 = .ok (.getfield 40, 3) := by decide +kernel
theorem dX2_player_4 : decode (mC M_X2_player) 4 = .ok (.ifCond .eq 10, 3) := by decide +kernel
theorem dX2_player_7 : decode (mC M_X2_player) 7 = .ok (.aload_n 0, 1) := by decide +kernel
theorem dX2_player_8 : decode (mC M_X2_player) 8 = .ok (.getfield 33, 3) := by decide +kernel
theorem dX2_player_11 : decode (mC M_X2_player) 11 = .ok (.goto 7, 3) := by decide +kernel
theorem dX2_player_14 : decode (mC M_X2_player) 14 = .ok (.aload_n 0, 1) := by decide +kernel
theorem dX2_player_15 : decode (mC M_X2_player) 15 = .ok (.getfield 30, 3) := by decide +kernel
theorem dX2_player_18 : decode (mC M_X2_player) 18 = .ok (.ireturn, 1) := by decide +kernel
theorem dX2_isOver_0 : decode (mC M_X2_isOver) 0 = .ok (.aload_n 0, 1) := by decide +kernel
theorem dX2_isOver_1 : decode (mC M_X2_isOver) 1 = .ok (.getfield 23, 3) := by decide +kernel
theorem dX2_isOver_4 : decode (mC M_X2_isOver) 4 = .ok (.iconst (-1), 1) := by decide +kernel
theorem dX2_isOver_5 : decode (mC M_X2_isOver) 5 = .ok (.if_icmp .eq 7, 3) := by decide +kernel
theorem dX2_isOver_8 : decode (mC M_X2_isOver) 8 = .ok (.iconst 1, 1) := by decide +kernel
theorem dX2_isOver_9 : decode (mC M_X2_isOver) 9 = .ok (.goto 4, 3) := by decide +kernel
theorem dX2_isOver_12 : decode (mC M_X2_isOver) 12 = .ok (.iconst 0, 1) := by decide +kernel
theorem dX2_isOver_13 : decode (mC M_X2_isOver) 13 = .ok (.ireturn, 1) := by decide +kernel
theorem dX2_isWaiting_0 : decode (mC M_X2_isWaiting) 0 = .ok (.aload_n 0, 1) := by decide +kernel
theorem dX2_isWaiting_1 : decode (mC M_X2_isWaiting) 1 = .ok (.getfield 43, 3) := by decide +kernel
theorem dX2_isWaiting_4 : decode (mC M_X2_isWaiting) 4 = .ok (.ifnonnull 14, 3) := by decide +kernel
theorem dX2_isWaiting_7 : decode (mC M_X2_isWaiting) 7 = .ok (.aload_n 0, 1) := by decide +kernel
theorem dX2_isWaiting_8 : decode (mC M_X2_isWaiting) 8 = .ok (.invokevirtual 47, 3) := by decide +kernel
theorem dX2_isWaiting_11 : decode (mC M_X2_isWaiting) 11 = .ok (.ifCond .ne 7, 3) := by decide +kernel
theorem dX2_isWaiting_14 : decode (mC M_X2_isWaiting) 14 = .ok (.iconst 1, 1) := by decide +kernel
theorem dX2_isWaiting_15 : decode (mC M_X2_isWaiting) 15 = .ok (.goto 4, 3) := by decide +kernel
theorem dX2_isWaiting_18 : decode (mC M_X2_isWaiting) 18 = .ok (.iconst 0, 1) := by decide +kernel
theorem dX2_isWaiting_19 : decode (mC M_X2_isWaiting) 19 = .ok (.ireturn, 1) := by decide +kernel
theorem dX2_lowestBall_0 : decode (mC M_X2_lowestBall) 0 = .ok (.iconst 1, 1) := by decide +kernel
theorem dX2_lowestBall_1 : decode (mC M_X2_lowestBall) 1 = .ok (.istore_n 1, 1) := by decide +kernel
theorem dX2_lowestBall_2 : decode (mC M_X2_lowestBall) 2 = .ok (.iload_n 1, 1) := by decide +kernel
theorem dX2_lowestBall_3 : decode (mC M_X2_lowestBall) 3 = .ok (.aload_n 0, 1) := by decide +kernel
theorem dX2_lowestBall_4 : decode (mC M_X2_lowestBall) 4 = .ok (.getfield 18, 3) := by decide +kernel
theorem dX2_lowestBall_7 : decode (mC M_X2_lowestBall) 7 = .ok (.arraylength, 1) := by decide +kernel
theorem dX2_lowestBall_8 : decode (mC M_X2_lowestBall) 8 = .ok (.if_icmp .ge 21, 3) := by decide +kernel
theorem dX2_lowestBall_11 : decode (mC M_X2_lowestBall) 11 = .ok (.aload_n 0, 1) := by decide +kernel
theorem dX2_lowestBall_12 : decode (mC M_X2_lowestBall) 12 = .ok (.getfield 18, 3) := by decide +kernel
theorem dX2_lowestBall_15 : decode (mC M_X2_lowestBall) 15 = .ok (.iload_n 1, 1) := by decide +kernel
theorem dX2_lowestBall_16 : decode (mC M_X2_lowestBall) 16 = .ok (.iaload, 1) := by decide +kernel
theorem dX2_lowestBall_17 : decode (mC M_X2_lowestBall) 17 = .ok (.iconst (-1), 1) := by decide +kernel
theorem dX2_lowestBall_18 : decode (mC M_X2_lowestBall) 18 = .ok (.if_icmp .eq 5, 3) := by decide +kernel
theorem dX2_lowestBall_21 : decode (mC M_X2_lowestBall) 21 = .ok (.iload_n 1, 1) := by decide +kernel
theorem dX2_lowestBall_22 : decode (mC M_X2_lowestBall) 22 = .ok (.ireturn, 1) := by decide +kernel
theorem dX2_lowestBall_23 : decode (mC M_X2_lowestBall) 23 = .ok (.iinc 1 1, 3) := by decide +kernel
theorem dX2_lowestBall_26 : decode (mC M_X2_lowestBall) 26 = .ok (.goto (-24), 3) := by decide +kernel
theorem dX2_lowestBall_29 : decode (mC M_X2_lowestBall) 29 = .ok (.iconst (-1), 1) := by decide +kernel
theorem dX2_lowestBall_30 : decode (mC M_X2_lowestBall) 30 = .ok (.ireturn, 1) := by decide +kernel
theorem dX2_settle_0 : decode (mC M_X2_settle) 0 = .ok (.aload_n 0, 1) := by decide +kernel
theorem dX2_settle_1 : decode (mC M_X2_settle) 1 = .ok (.invokevirtual 51, 3) := by decide +kernel
theorem dX2_settle_4 : decode (mC M_X2_settle) 4 = .ok (.istore_n 2, 1) := by decide +kernel
theorem dX2_settle_5 : decode (mC M_X2_settle) 5 = .ok (.iconst 0, 1) := by decide +kernel
theorem dX2_settle_6 : decode (mC M_X2_settle) 6 = .ok (.istore_n 3, 1) := by decide +kernel
theorem dX2_settle_7 : decode (mC M_X2_settle) 7 = .ok (.iload_n 3, 1) := by decide +kernel
theorem dX2_settle_8 : decode (mC M_X2_settle) 8 = .ok (.aload_n 0, 1) := by decide +kernel
theorem dX2_settle_9 : decode (mC M_X2_settle) 9 = .ok (.getfield 18, 3) := by decide +kernel
theorem dX2_settle_12 : decode (mC M_X2_settle) 12 = .ok (.arraylength, 1) := by decide +kernel
theorem dX2_settle_13 : decode (mC M_X2_settle) 13 = .ok (.if_icmp .ge 30, 3) := by decide +kernel
theorem dX2_settle_16 : decode (mC M_X2_settle) 16 = .ok (.iload_n 3, 1) := by decide +kernel
theorem dX2_settle_17 : decode (mC M_X2_settle) 17 = .ok (.aload_n 1, 1) := by decide +kernel
theorem dX2_settle_18 : decode (mC M_X2_settle) 18 = .ok (.getfield 55, 3) := by decide +kernel
theorem dX2_settle_21 : decode (mC M_X2_settle) 21 = .ok (.arraylength, 1) := by decide +kernel
theorem dX2_settle_22 : decode (mC M_X2_settle) 22 = .ok (.if_icmp .ge 21, 3) := by decide +kernel
theorem dX2_settle_25 : decode (mC M_X2_settle) 25 = .ok (.aload_n 0, 1) := by decide +kernel
theorem dX2_settle_26 : decode (mC M_X2_settle) 26 = .ok (.getfield 18, 3) := by decide +kernel
theorem dX2_settle_29 : decode (mC M_X2_settle) 29 = .ok (.iload_n 3, 1) := by decide +kernel
theorem dX2_settle_30 : decode (mC M_X2_settle) 30 = .ok (.aload_n 1, 1) := by decide +kernel
theorem dX2_settle_31 : decode (mC M_X2_settle) 31 = .ok (.getfield 55, 3) := by decide +kernel
theorem dX2_settle_34 : decode (mC M_X2_settle) 34 = .ok (.iload_n 3, 1) := by decide +kernel
theorem dX2_settle_35 : decode (mC M_X2_settle) 35 = .ok (.iaload, 1) := by decide +kernel
theorem dX2_settle_36 : decode (mC M_X2_settle) 36 = .ok (.iastore, 1) := by decide +kernel
theorem dX2_settle_37 : decode (mC M_X2_settle) 37 = .ok (.iinc 3 1, 3) := by decide +kernel
theorem dX2_settle_40 : decode (mC M_X2_settle) 40 = .ok (.goto (-33), 3) := by decide +kernel
theorem dX2_settle_43 : decode (mC M_X2_settle) 43 = .ok (.aload_n 0, 1) := by decide +kernel
theorem dX2_settle_44 : decode (mC M_X2_settle) 44 = .ok (.aload_n 1, 1) := by decide +kernel
theorem dX2_settle_45 : decode (mC M_X2_settle) 45 = .ok (.iload_n 2, 1) := by decide +kernel
theorem dX2_settle_46 : decode (mC M_X2_settle) 46 = .ok (.invokevirtual 58, 3) := by decide +kernel
theorem dX2_settle_49 : decode (mC M_X2_settle) 49 = .ok (.ifCond .eq 11, 3) := by decide +kernel
theorem dX2_settle_52 : decode (mC M_X2_settle) 52 = .ok (.aload_n 0, 1) := by decide +kernel
theorem dX2_settle_53 : decode (mC M_X2_settle) 53 = .ok (.aload_n 1, 1) := by decide +kernel
theorem dX2_settle_54 : decode (mC M_X2_settle) 54 = .ok (.iload_n 2, 1) := by decide +kernel
theorem dX2_settle_55 : decode (mC M_X2_settle) 55 = .ok (.invokevirtual 62, 3) := by decide +kernel
theorem dX2_settle_58 : decode (mC M_X2_settle) 58 = .ok (.ineg, 1) := by decide +kernel
theorem dX2_settle_59 : decode (mC M_X2_settle) 59 = .ok (.ireturn, 1) := by decide +kernel
theorem dX2_settle_60 : decode (mC M_X2_settle) 60 = .ok (.aload_n 0, 1) := by decide +kernel
theorem dX2_settle_61 : decode (mC M_X2_settle) 61 = .ok (.aload_n 1, 1) := by decide +kernel
theorem dX2_settle_62 : decode (mC M_X2_settle) 62 = .ok (.invokevirtual 66, 3) := by decide +kernel
theorem dX2_settle_65 : decode (mC M_X2_settle) 65 = .ok (.ireturn, 1) := by decide +kernel
theorem dX2_isFoul_0 : decode (mC M_X2_isFoul) 0 = .ok (.aload_n 1, 1) := by decide +kernel
theorem dX2_isFoul_1 : decode (mC M_X2_isFoul) 1 = .ok (.getfield 70, 3) := by decide +kernel
theorem dX2_isFoul_4 : decode (mC M_X2_isFoul) 4 = .ok (.iconst 0, 1) := by decide +kernel
theorem dX2_isFoul_5 : decode (mC M_X2_isFoul) 5 = .ok (.baload, 1) := by decide +kernel
theorem dX2_isFoul_6 : decode (mC M_X2_isFoul) 6 = .ok (.ifCond .ne 26, 3) := by decide +kernel
theorem dX2_isFoul_9 : decode (mC M_X2_isFoul) 9 = .ok (.aload_n 1, 1) := by decide +kernel
theorem dX2_isFoul_10 : decode (mC M_X2_isFoul) 10 = .ok (.getfield 74, 3) := by decide +kernel
theorem dX2_isFoul_13 : decode (mC M_X2_isFoul) 13 = .ok (.iconst (-1), 1) := by decide +kernel
theorem dX2_isFoul_14 : decode (mC M_X2_isFoul) 14 = .ok (.if_icmp .eq 18, 3) := by decide +kernel
theorem dX2_isFoul_17 : decode (mC M_X2_isFoul) 17 = .ok (.aload_n 1, 1) := by decide +kernel
theorem dX2_isFoul_18 : decode (mC M_X2_isFoul) 18 = .ok (.getfield 74, 3) := by decide +kernel
theorem dX2_isFoul_21 : decode (mC M_X2_isFoul) 21 = .ok (.iload_n 2, 1) := by decide +kernel
theorem dX2_isFoul_22 : decode (mC M_X2_isFoul) 22 = .ok (.if_icmp .eq 14, 3) := by decide +kernel
theorem dX2_isFoul_25 : decode (mC M_X2_isFoul) 25 = .ok (.aload_n 0, 1) := by decide +kernel
theorem dX2_isFoul_26 : decode (mC M_X2_isFoul) 26 = .ok (.getfield 77, 3) := by decide +kernel
theorem dX2_isFoul_29 : decode (mC M_X2_isFoul) 29 = .ok (.ifCond .ne 7, 3) := by decide +kernel
theorem dX2_isFoul_32 : decode (mC M_X2_isFoul) 32 = .ok (.iconst 1, 1) := by decide +kernel
theorem dX2_isFoul_33 : decode (mC M_X2_isFoul) 33 = .ok (.goto 4, 3) := by decide +kernel
theorem dX2_isFoul_36 : decode (mC M_X2_isFoul) 36 = .ok (.iconst 0, 1) := by decide +kernel
theorem dX2_isFoul_37 : decode (mC M_X2_isFoul) 37 = .ok (.ireturn, 1) := by decide +kernel
theorem dX2_settleFair_0 : decode (mC M_X2_settleFair) 0 = .ok (.aload_n 1, 1) := by decide +kernel
theorem dX2_settleFair_1 : decode (mC M_X2_settleFair) 1 = .ok (.invokevirtual 80, 3) := by decide +kernel
theorem dX2_settleFair_4 : decode (mC M_X2_settleFair) 4 = .ok (.istore_n 2, 1) := by decide +kernel
theorem dX2_settleFair_5 : decode (mC M_X2_settleFair) 5 = .ok (.aload_n 0, 1) := by decide +kernel
theorem dX2_settleFair_6 : decode (mC M_X2_settleFair) 6 = .ok (.iconst 0, 1) := by decide +kernel
theorem dX2_settleFair_7 : decode (mC M_X2_settleFair) 7 = .ok (.putfield 77, 3) := by decide +kernel
theorem dX2_settleFair_10 : decode (mC M_X2_settleFair) 10 = .ok (.aload_n 0, 1) := by decide +kernel
theorem dX2_settleFair_11 : decode (mC M_X2_settleFair) 11 = .ok (.aload_n 0, 1) := by decide +kernel
theorem dX2_settleFair_12 : decode (mC M_X2_settleFair) 12 = .ok (.getfield 40, 3) := by decide +kernel
theorem dX2_settleFair_15 : decode (mC M_X2_settleFair) 15 = .ok (.iload_n 2, 1) := by decide +kernel
theorem dX2_settleFair_16 : decode (mC M_X2_settleFair) 16 = .ok (.invokevirtual 83, 3) := by decide +kernel
theorem dX2_settleFair_19 : decode (mC M_X2_settleFair) 19 = .ok (.aload_n 0, 1) := by decide +kernel
theorem dX2_settleFair_20 : decode (mC M_X2_settleFair) 20 = .ok (.invokevirtual 51, 3) := by decide +kernel
theorem dX2_settleFair_23 : decode (mC M_X2_settleFair) 23 = .ok (.iconst (-1), 1) := by decide +kernel
theorem dX2_settleFair_24 : decode (mC M_X2_settleFair) 24 = .ok (.if_icmp .ne 11, 3) := by decide +kernel
theorem dX2_settleFair_27 : decode (mC M_X2_settleFair) 27 = .ok (.aload_n 0, 1) := by decide +kernel
theorem dX2_settleFair_28 : decode (mC M_X2_settleFair) 28 = .ok (.aload_n 0, 1) := by decide +kernel
theorem dX2_settleFair_29 : decode (mC M_X2_settleFair) 29 = .ok (.invokevirtual 87, 3) := by decide +kernel
theorem dX2_settleFair_32 : decode (mC M_X2_settleFair) 32 = .ok (.putfield 23, 3) := by decide +kernel
theorem dX2_settleFair_35 : decode (mC M_X2_settleFair) 35 = .ok (.iload_n 2, 1) := by decide +kernel
theorem dX2_settleFair_36 : decode (mC M_X2_settleFair) 36 = .ok (.ifCond .ne 19, 3) := by decide +kernel
theorem dX2_settleFair_39 : decode (mC M_X2_settleFair) 39 = .ok (.aload_n 0, 1) := by decide +kernel
theorem dX2_settleFair_40 : decode (mC M_X2_settleFair) 40 = .ok (.aload_n 0, 1) := by decide +kernel
theorem dX2_settleFair_41 : decode (mC M_X2_settleFair) 41 = .ok (.getfield 40, 3) := by decide +kernel
theorem dX2_settleFair_44 : decode (mC M_X2_settleFair) 44 = .ok (.ifCond .ne 7, 3) := by decide +kernel
theorem dX2_settleFair_47 : decode (mC M_X2_settleFair) 47 = .ok (.iconst 1, 1) := by decide +kernel
theorem dX2_settleFair_48 : decode (mC M_X2_settleFair) 48 = .ok (.goto 4, 3) := by decide +kernel
theorem dX2_settleFair_51 : decode (mC M_X2_settleFair) 51 = .ok (.iconst 0, 1) := by decide +kernel
theorem dX2_settleFair_52 : decode (mC M_X2_settleFair) 52 = .ok (.putfield 40, 3) := by decide +kernel
theorem dX2_settleFair_55 : decode (mC M_X2_settleFair) 55 = .ok (.iload_n 2, 1) := by decide +kernel
theorem dX2_settleFair_56 : decode (mC M_X2_settleFair) 56 = .ok (.ireturn, 1) := by decide +kernel
theorem dX2_settleFoul_0 : decode (mC M_X2_settleFoul) 0 = .ok (.iconst 4, 1) := by decide +kernel
theorem dX2_settleFoul_1 : decode (mC M_X2_settleFoul) 1 = .ok (.iload_n 2, 1) := by decide +kernel
theorem dX2_settleFoul_2 : decode (mC M_X2_settleFoul) 2 = .ok (.invokestatic 90, 3) := by decide +kernel
theorem dX2_settleFoul_5 : decode (mC M_X2_settleFoul) 5 = .ok (.istore_n 3, 1) := by decide +kernel
theorem dX2_settleFoul_6 : decode (mC M_X2_settleFoul) 6 = .ok (.aload_n 0, 1) := by decide +kernel
theorem dX2_settleFoul_7 : decode (mC M_X2_settleFoul) 7 = .ok (.aload_n 0, 1) := by decide +kernel
theorem dX2_settleFoul_8 : decode (mC M_X2_settleFoul) 8 = .ok (.getfield 40, 3) := by decide +kernel
theorem dX2_settleFoul_11 : decode (mC M_X2_settleFoul) 11 = .ok (.ifCond .ne 7, 3) := by decide +kernel
theorem dX2_settleFoul_14 : decode (mC M_X2_settleFoul) 14 = .ok (.iconst 1, 1) := by decide +kernel
theorem dX2_settleFoul_15 : decode (mC M_X2_settleFoul) 15 = .ok (.goto 4, 3) := by decide +kernel
theorem dX2_settleFoul_18 : decode (mC M_X2_settleFoul) 18 = .ok (.iconst 0, 1) := by decide +kernel
theorem dX2_settleFoul_19 : decode (mC M_X2_settleFoul) 19 = .ok (.putfield 40, 3) := by decide +kernel
theorem dX2_settleFoul_22 : decode (mC M_X2_settleFoul) 22 = .ok (.aload_n 0, 1) := by decide +kernel
theorem dX2_settleFoul_23 : decode (mC M_X2_settleFoul) 23 = .ok (.aload_n 0, 1) := by decide +kernel
theorem dX2_settleFoul_24 : decode (mC M_X2_settleFoul) 24 = .ok (.getfield 40, 3) := by decide +kernel
theorem dX2_settleFoul_27 : decode (mC M_X2_settleFoul) 27 = .ok (.iload_n 3, 1) := by decide +kernel
theorem dX2_settleFoul_28 : decode (mC M_X2_settleFoul) 28 = .ok (.invokevirtual 83, 3) := by decide +kernel
theorem dX2_settleFoul_31 : decode (mC M_X2_settleFoul) 31 = .ok (.iconst 0, 1) := by decide +kernel
theorem dX2_settleFoul_32 : decode (mC M_X2_settleFoul) 32 = .ok (.istore 4, 2) := by decide +kernel
theorem dX2_settleFoul_34 : decode (mC M_X2_settleFoul) 34 = .ok (.iload 4, 2) := by decide +kernel
theorem dX2_settleFoul_36 : decode (mC M_X2_settleFoul) 36 = .ok (.aload_n 0, 1) := by decide +kernel
theorem dX2_settleFoul_37 : decode (mC M_X2_settleFoul) 37 = .ok (.getfield 18, 3) := by decide +kernel
theorem dX2_settleFoul_40 : decode (mC M_X2_settleFoul) 40 = .ok (.arraylength, 1) := by decide +kernel
theorem dX2_settleFoul_41 : decode (mC M_X2_settleFoul) 41 = .ok (.if_icmp .ge 35, 3) := by decide +kernel
theorem dX2_settleFoul_44 : decode (mC M_X2_settleFoul) 44 = .ok (.iload 4, 2) := by decide +kernel
theorem dX2_settleFoul_46 : decode (mC M_X2_settleFoul) 46 = .ok (.aload_n 1, 1) := by decide +kernel
theorem dX2_settleFoul_47 : decode (mC M_X2_settleFoul) 47 = .ok (.getfield 70, 3) := by decide +kernel
theorem dX2_settleFoul_50 : decode (mC M_X2_settleFoul) 50 = .ok (.arraylength, 1) := by decide +kernel
theorem dX2_settleFoul_51 : decode (mC M_X2_settleFoul) 51 = .ok (.if_icmp .ge 25, 3) := by decide +kernel
theorem dX2_settleFoul_54 : decode (mC M_X2_settleFoul) 54 = .ok (.aload_n 1, 1) := by decide +kernel
theorem dX2_settleFoul_55 : decode (mC M_X2_settleFoul) 55 = .ok (.getfield 70, 3) := by decide +kernel
theorem dX2_settleFoul_58 : decode (mC M_X2_settleFoul) 58 = .ok (.iload 4, 2) := by decide +kernel
theorem dX2_settleFoul_60 : decode (mC M_X2_settleFoul) 60 = .ok (.baload, 1) := by decide +kernel
theorem dX2_settleFoul_61 : decode (mC M_X2_settleFoul) 61 = .ok (.ifCond .eq 9, 3) := by decide +kernel
theorem dX2_settleFoul_64 : decode (mC M_X2_settleFoul) 64 = .ok (.aload_n 0, 1) := by decide +kernel
theorem dX2_settleFoul_65 : decode (mC M_X2_settleFoul) 65 = .ok (.iload 4, 2) := by decide +kernel
theorem dX2_settleFoul_67 : decode (mC M_X2_settleFoul) 67 = .ok (.invokevirtual 96, 3) := by decide +kernel
theorem dX2_settleFoul_70 : decode (mC M_X2_settleFoul) 70 = .ok (.iinc 4 1, 3) := by decide +kernel
theorem dX2_settleFoul_73 : decode (mC M_X2_settleFoul) 73 = .ok (.goto (-39), 3) := by decide +kernel
theorem dX2_settleFoul_76 : decode (mC M_X2_settleFoul) 76 = .ok (.aload_n 0, 1) := by decide +kernel
theorem dX2_settleFoul_77 : decode (mC M_X2_settleFoul) 77 = .ok (.aload_n 0, 1) := by decide +kernel
theorem dX2_settleFoul_78 : decode (mC M_X2_settleFoul) 78 = .ok (.iload_n 2, 1) := by decide +kernel
theorem dX2_settleFoul_79 : decode (mC M_X2_settleFoul) 79 = .ok (.invokevirtual 100, 3) := by decide +kernel
theorem dX2_settleFoul_82 : decode (mC M_X2_settleFoul) 82 = .ok (.putfield 77, 3) := by decide +kernel
theorem dX2_settleFoul_85 : decode (mC M_X2_settleFoul) 85 = .ok (.iload_n 3, 1) := by decide +kernel
theorem dX2_settleFoul_86 : decode (mC M_X2_settleFoul) 86 = .ok (.ireturn, 1) := by decide +kernel
theorem dX2_addPoints_0 : decode (mC M_X2_addPoints) 0 = .ok (.iload_n 1, 1) := by decide +kernel
theorem dX2_addPoints_1 : decode (mC M_X2_addPoints) 1 = .ok (.ifCond .eq 16, 3) := by decide +kernel
theorem dX2_addPoints_4 : decode (mC M_X2_addPoints) 4 = .ok (.aload_n 0, 1) := by decide +kernel
theorem dX2_addPoints_5 : decode (mC M_X2_addPoints) 5 = .ok (.dup, 1) := by decide +kernel
theorem dX2_addPoints_6 : decode (mC M_X2_addPoints) 6 = .ok (.getfield 104, 3) := by decide +kernel
theorem dX2_addPoints_9 : decode (mC M_X2_addPoints) 9 = .ok (.iload_n 2, 1) := by decide +kernel
theorem dX2_addPoints_10 : decode (mC M_X2_addPoints) 10 = .ok (.iadd, 1) := by decide +kernel
theorem dX2_addPoints_11 : decode (mC M_X2_addPoints) 11 = .ok (.putfield 104, 3) := by decide +kernel
theorem dX2_addPoints_14 : decode (mC M_X2_addPoints) 14 = .ok (.goto 13, 3) := by decide +kernel
theorem dX2_addPoints_17 : decode (mC M_X2_addPoints) 17 = .ok (.aload_n 0, 1) := by decide +kernel
theorem dX2_addPoints_18 : decode (mC M_X2_addPoints) 18 = .ok (.dup, 1) := by decide +kernel
theorem dX2_addPoints_19 : decode (mC M_X2_addPoints) 19 = .ok (.getfield 107, 3) := by decide +kernel
theorem dX2_addPoints_22 : decode (mC M_X2_addPoints) 22 = .ok (.iload_n 2, 1) := by decide +kernel
theorem dX2_addPoints_23 : decode (mC M_X2_addPoints) 23 = .ok (.iadd, 1) := by decide +kernel
theorem dX2_addPoints_24 : decode (mC M_X2_addPoints) 24 = .ok (.putfield 107, 3) := by decide +kernel
theorem dX2_addPoints_27 : decode (mC M_X2_addPoints) 27 = .ok (.return_, 1) := by decide +kernel
theorem dX2_leader_0 : decode (mC M_X2_leader) 0 = .ok (.aload_n 0, 1) := by decide +kernel
theorem dX2_leader_1 : decode (mC M_X2_leader) 1 = .ok (.getfield 107, 3) := by decide +kernel
theorem dX2_leader_4 : decode (mC M_X2_leader) 4 = .ok (.aload_n 0, 1) := by decide +kernel
theorem dX2_leader_5 : decode (mC M_X2_leader) 5 = .ok (.getfield 104, 3) := by decide +kernel
theorem dX2_leader_8 : decode (mC M_X2_leader) 8 = .ok (.if_icmp .ne 8, 3) := by decide +kernel
theorem dX2_leader_11 : decode (mC M_X2_leader) 11 = .ok (.aload_n 0, 1) := by decide +kernel
theorem dX2_leader_12 : decode (mC M_X2_leader) 12 = .ok (.invokevirtual 110, 3) := by decide +kernel
theorem dX2_leader_15 : decode (mC M_X2_leader) 15 = .ok (.ireturn, 1) := by decide +kernel
theorem dX2_leader_16 : decode (mC M_X2_leader) 16 = .ok (.aload_n 0, 1) := by decide +kernel
theorem dX2_leader_17 : decode (mC M_X2_leader) 17 = .ok (.getfield 107, 3) := by decide +kernel
theorem dX2_leader_20 : decode (mC M_X2_leader) 20 = .ok (.aload_n 0, 1) := by decide +kernel
theorem dX2_leader_21 : decode (mC M_X2_leader) 21 = .ok (.getfield 104, 3) := by decide +kernel
theorem dX2_leader_24 : decode (mC M_X2_leader) 24 = .ok (.if_icmp .le 10, 3) := by decide +kernel
theorem dX2_leader_27 : decode (mC M_X2_leader) 27 = .ok (.aload_n 0, 1) := by decide +kernel
theorem dX2_leader_28 : decode (mC M_X2_leader) 28 = .ok (.getfield 30, 3) := by decide +kernel
theorem dX2_leader_31 : decode (mC M_X2_leader) 31 = .ok (.goto 7, 3) := by decide +kernel
theorem dX2_leader_34 : decode (mC M_X2_leader) 34 = .ok (.aload_n 0, 1) := by decide +kernel
theorem dX2_leader_35 : decode (mC M_X2_leader) 35 = .ok (.getfield 33, 3) := by decide +kernel
theorem dX2_leader_38 : decode (mC M_X2_leader) 38 = .ok (.ireturn, 1) := by decide +kernel
theorem dX2_comeBack_0 : decode (mC M_X2_comeBack) 0 = .ok (.iload_n 1, 1) := by decide +kernel
theorem dX2_comeBack_1 : decode (mC M_X2_comeBack) 1 = .ok (.ifCond .lt 20, 3) := by decide +kernel
theorem dX2_comeBack_4 : decode (mC M_X2_comeBack) 4 = .ok (.iload_n 1, 1) := by decide +kernel
theorem dX2_comeBack_5 : decode (mC M_X2_comeBack) 5 = .ok (.aload_n 0, 1) := by decide +kernel
theorem dX2_comeBack_6 : decode (mC M_X2_comeBack) 6 = .ok (.getfield 18, 3) := by decide +kernel
theorem dX2_comeBack_9 : decode (mC M_X2_comeBack) 9 = .ok (.arraylength, 1) := by decide +kernel
theorem dX2_comeBack_10 : decode (mC M_X2_comeBack) 10 = .ok (.if_icmp .ge 11, 3) := by decide +kernel
theorem dX2_comeBack_13 : decode (mC M_X2_comeBack) 13 = .ok (.iload_n 1, 1) := by decide +kernel
theorem dX2_comeBack_14 : decode (mC M_X2_comeBack) 14 = .ok (.getstatic 9, 3) := by decide +kernel
theorem dX2_comeBack_17 : decode (mC M_X2_comeBack) 17 = .ok (.arraylength, 1) := by decide +kernel
theorem dX2_comeBack_18 : decode (mC M_X2_comeBack) 18 = .ok (.if_icmp .lt 4, 3) := by decide +kernel
theorem dX2_comeBack_21 : decode (mC M_X2_comeBack) 21 = .ok (.return_, 1) := by decide +kernel
theorem dX2_comeBack_22 : decode (mC M_X2_comeBack) 22 = .ok (.aload_n 0, 1) := by decide +kernel
theorem dX2_comeBack_23 : decode (mC M_X2_comeBack) 23 = .ok (.getfield 18, 3) := by decide +kernel
theorem dX2_comeBack_26 : decode (mC M_X2_comeBack) 26 = .ok (.iload_n 1, 1) := by decide +kernel
theorem dX2_comeBack_27 : decode (mC M_X2_comeBack) 27 = .ok (.aload_n 0, 1) := by decide +kernel
theorem dX2_comeBack_28 : decode (mC M_X2_comeBack) 28 = .ok (.getstatic 9, 3) := by decide +kernel
theorem dX2_comeBack_31 : decode (mC M_X2_comeBack) 31 = .ok (.iload_n 1, 1) := by decide +kernel
theorem dX2_comeBack_32 : decode (mC M_X2_comeBack) 32 = .ok (.iaload, 1) := by decide +kernel
theorem dX2_comeBack_33 : decode (mC M_X2_comeBack) 33 = .ok (.invokevirtual 113, 3) := by decide +kernel
theorem dX2_comeBack_36 : decode (mC M_X2_comeBack) 36 = .ok (.iconst (-1), 1) := by decide +kernel
theorem dX2_comeBack_37 : decode (mC M_X2_comeBack) 37 = .ok (.if_icmp .ne 11, 3) := by decide +kernel
theorem dX2_comeBack_40 : decode (mC M_X2_comeBack) 40 = .ok (.getstatic 9, 3) := by decide +kernel
theorem dX2_comeBack_43 : decode (mC M_X2_comeBack) 43 = .ok (.iload_n 1, 1) := by decide +kernel
theorem dX2_comeBack_44 : decode (mC M_X2_comeBack) 44 = .ok (.iaload, 1) := by decide +kernel
theorem dX2_comeBack_45 : decode (mC M_X2_comeBack) 45 = .ok (.goto 7, 3) := by decide +kernel
theorem dX2_comeBack_48 : decode (mC M_X2_comeBack) 48 = .ok (.aload_n 0, 1) := by decide +kernel
theorem dX2_comeBack_49 : decode (mC M_X2_comeBack) 49 = .ok (.invokevirtual 117, 3) := by decide +kernel
theorem dX2_comeBack_52 : decode (mC M_X2_comeBack) 52 = .ok (.iastore, 1) := by decide +kernel
theorem dX2_comeBack_53 : decode (mC M_X2_comeBack) 53 = .ok (.return_, 1) := by decide +kernel
theorem dX2_lowestEmptyCell_0 : decode (mC M_X2_lowestEmptyCell) 0 = .ok (.iconst 0, 1) := by decide +kernel
theorem dX2_lowestEmptyCell_1 : decode (mC M_X2_lowestEmptyCell) 1 = .ok (.istore_n 1, 1) := by decide +kernel
theorem dX2_lowestEmptyCell_2 : decode (mC M_X2_lowestEmptyCell) 2 = .ok (.iload_n 1, 1) := by decide +kernel
theorem dX2_lowestEmptyCell_3 : decode (mC M_X2_lowestEmptyCell) 3 = .ok (.sipush 128, 3) := by decide +kernel
theorem dX2_lowestEmptyCell_6 : decode (mC M_X2_lowestEmptyCell) 6 = .ok (.if_icmp .ge 27, 3) := by decide +kernel
theorem dX2_lowestEmptyCell_9 : decode (mC M_X2_lowestEmptyCell) 9 = .ok (.iload_n 1, 1) := by decide +kernel
theorem dX2_lowestEmptyCell_10 : decode (mC M_X2_lowestEmptyCell) 10 = .ok (.invokestatic 120, 3) := by decide +kernel
theorem dX2_lowestEmptyCell_13 : decode (mC M_X2_lowestEmptyCell) 13 = .ok (.ifCond .ne 14, 3) := by decide +kernel
theorem dX2_lowestEmptyCell_16 : decode (mC M_X2_lowestEmptyCell) 16 = .ok (.aload_n 0, 1) := by decide +kernel
theorem dX2_lowestEmptyCell_17 : decode (mC M_X2_lowestEmptyCell) 17 = .ok (.iload_n 1, 1) := by decide +kernel
theorem dX2_lowestEmptyCell_18 : decode (mC M_X2_lowestEmptyCell) 18 = .ok (.invokevirtual 113, 3) := by decide +kernel
theorem dX2_lowestEmptyCell_21 : decode (mC M_X2_lowestEmptyCell) 21 = .ok (.iconst (-1), 1) := by decide +kernel
theorem dX2_lowestEmptyCell_22 : decode (mC M_X2_lowestEmptyCell) 22 = .ok (.if_icmp .ne 5, 3) := by decide +kernel
theorem dX2_lowestEmptyCell_25 : decode (mC M_X2_lowestEmptyCell) 25 = .ok (.iload_n 1, 1) := by decide +kernel
theorem dX2_lowestEmptyCell_26 : decode (mC M_X2_lowestEmptyCell) 26 = .ok (.ireturn, 1) := by decide +kernel
theorem dX2_lowestEmptyCell_27 : decode (mC M_X2_lowestEmptyCell) 27 = .ok (.iinc 1 1, 3) := by decide +kernel
theorem dX2_lowestEmptyCell_30 : decode (mC M_X2_lowestEmptyCell) 30 = .ok (.goto (-28), 3) := by decide +kernel
theorem dX2_lowestEmptyCell_33 : decode (mC M_X2_lowestEmptyCell) 33 = .ok (.iconst (-1), 1) := by decide +kernel
theorem dX2_lowestEmptyCell_34 : decode (mC M_X2_lowestEmptyCell) 34 = .ok (.ireturn, 1) := by decide +kernel
theorem dX2_ballIn_0 : decode (mC M_X2_ballIn) 0 = .ok (.iconst 0, 1) := by decide +kernel
theorem dX2_ballIn_1 : decode (mC M_X2_ballIn) 1 = .ok (.istore_n 2, 1) := by decide +kernel
theorem dX2_ballIn_2 : decode (mC M_X2_ballIn) 2 = .ok (.iload_n 2, 1) := by decide +kernel
theorem dX2_ballIn_3 : decode (mC M_X2_ballIn) 3 = .ok (.aload_n 0, 1) := by decide +kernel
theorem dX2_ballIn_4 : decode (mC M_X2_ballIn) 4 = .ok (.getfield 18, 3) := by decide +kernel
theorem dX2_ballIn_7 : decode (mC M_X2_ballIn) 7 = .ok (.arraylength, 1) := by decide +kernel
theorem dX2_ballIn_8 : decode (mC M_X2_ballIn) 8 = .ok (.if_icmp .ge 21, 3) := by decide +kernel
theorem dX2_ballIn_11 : decode (mC M_X2_ballIn) 11 = .ok (.aload_n 0, 1) := by decide +kernel
theorem dX2_ballIn_12 : decode (mC M_X2_ballIn) 12 = .ok (.getfield 18, 3) := by decide +kernel
theorem dX2_ballIn_15 : decode (mC M_X2_ballIn) 15 = .ok (.iload_n 2, 1) := by decide +kernel
theorem dX2_ballIn_16 : decode (mC M_X2_ballIn) 16 = .ok (.iaload, 1) := by decide +kernel
theorem dX2_ballIn_17 : decode (mC M_X2_ballIn) 17 = .ok (.iload_n 1, 1) := by decide +kernel
theorem dX2_ballIn_18 : decode (mC M_X2_ballIn) 18 = .ok (.if_icmp .ne 5, 3) := by decide +kernel
theorem dX2_ballIn_21 : decode (mC M_X2_ballIn) 21 = .ok (.iload_n 2, 1) := by decide +kernel
theorem dX2_ballIn_22 : decode (mC M_X2_ballIn) 22 = .ok (.ireturn, 1) := by decide +kernel
theorem dX2_ballIn_23 : decode (mC M_X2_ballIn) 23 = .ok (.iinc 2 1, 3) := by decide +kernel
theorem dX2_ballIn_26 : decode (mC M_X2_ballIn) 26 = .ok (.goto (-24), 3) := by decide +kernel
theorem dX2_ballIn_29 : decode (mC M_X2_ballIn) 29 = .ok (.iconst (-1), 1) := by decide +kernel
theorem dX2_ballIn_30 : decode (mC M_X2_ballIn) 30 = .ok (.ireturn, 1) := by decide +kernel
theorem dX2_isHidden_0 : decode (mC M_X2_isHidden) 0 = .ok (.iconst 0, 1) := by decide +kernel
theorem dX2_isHidden_1 : decode (mC M_X2_isHidden) 1 = .ok (.istore_n 2, 1) := by decide +kernel
theorem dX2_isHidden_2 : decode (mC M_X2_isHidden) 2 = .ok (.iload_n 2, 1) := by decide +kernel
theorem dX2_isHidden_3 : decode (mC M_X2_isHidden) 3 = .ok (.bipush 8, 2) := by decide +kernel
theorem dX2_isHidden_5 : decode (mC M_X2_isHidden) 5 = .ok (.if_icmp .ge 20, 3) := by decide +kernel
theorem dX2_isHidden_8 : decode (mC M_X2_isHidden) 8 = .ok (.aload_n 0, 1) := by decide +kernel
theorem dX2_isHidden_9 : decode (mC M_X2_isHidden) 9 = .ok (.iload_n 2, 1) := by decide +kernel
theorem dX2_isHidden_10 : decode (mC M_X2_isHidden) 10 = .ok (.invokevirtual 123, 3) := by decide +kernel
theorem dX2_isHidden_13 : decode (mC M_X2_isHidden) 13 = .ok (.iload_n 1, 1) := by decide +kernel
theorem dX2_isHidden_14 : decode (mC M_X2_isHidden) 14 = .ok (.if_icmp .ne 5, 3) := by decide +kernel
theorem dX2_isHidden_17 : decode (mC M_X2_isHidden) 17 = .ok (.iconst 0, 1) := by decide +kernel
theorem dX2_isHidden_18 : decode (mC M_X2_isHidden) 18 = .ok (.ireturn, 1) := by decide +kernel
theorem dX2_isHidden_19 : decode (mC M_X2_isHidden) 19 = .ok (.iinc 2 1, 3) := by decide +kernel
theorem dX2_isHidden_22 : decode (mC M_X2_isHidden) 22 = .ok (.goto (-20), 3) := by decide +kernel
theorem dX2_isHidden_25 : decode (mC M_X2_isHidden) 25 = .ok (.iconst 1, 1) := by decide +kernel
theorem dX2_isHidden_26 : decode (mC M_X2_isHidden) 26 = .ok (.ireturn, 1) := by decide +kernel
theorem dX2_firstBallFromWhite_0 : decode (mC M_X2_firstBallFromWhite) 0 = .ok (.aload_n 0, 1) := by decide +kernel
theorem dX2_firstBallFromWhite_1 : decode (mC M_X2_firstBallFromWhite) 1 = .ok (.getfield 18, 3) := by decide +kernel
theorem dX2_firstBallFromWhite_4 : decode (mC M_X2_firstBallFromWhite) 4 = .ok (.iconst 0, 1) := by decide +kernel
theorem dX2_firstBallFromWhite_5 : decode (mC M_X2_firstBallFromWhite) 5 = .ok (.iaload, 1) := by decide +kernel
theorem dX2_firstBallFromWhite_6 : decode (mC M_X2_firstBallFromWhite) 6 = .ok (.istore_n 2, 1) := by decide +kernel
theorem dX2_firstBallFromWhite_7 : decode (mC M_X2_firstBallFromWhite) 7 = .ok (.iconst 0, 1) := by decide +kernel
theorem dX2_firstBallFromWhite_8 : decode (mC M_X2_firstBallFromWhite) 8 = .ok (.istore_n 3, 1) := by decide +kernel
theorem dX2_firstBallFromWhite_9 : decode (mC M_X2_firstBallFromWhite) 9 = .ok (.iload_n 3, 1) := by decide +kernel
theorem dX2_firstBallFromWhite_10 : decode (mC M_X2_firstBallFromWhite) 10 = .ok (.bipush 16, 2) := by decide +kernel
theorem dX2_firstBallFromWhite_12 : decode (mC M_X2_firstBallFromWhite) 12 = .ok (.if_icmp .ge 38, 3) := by decide +kernel
theorem dX2_firstBallFromWhite_15 : decode (mC M_X2_firstBallFromWhite) 15 = .ok (.iload_n 2, 1) := by decide +kernel
theorem dX2_firstBallFromWhite_16 : decode (mC M_X2_firstBallFromWhite) 16 = .ok (.iload_n 1, 1) := by decide +kernel
theorem dX2_firstBallFromWhite_17 : decode (mC M_X2_firstBallFromWhite) 17 = .ok (.invokestatic 126, 3) := by decide +kernel
theorem dX2_firstBallFromWhite_20 : decode (mC M_X2_firstBallFromWhite) 20 = .ok (.istore_n 2, 1) := by decide +kernel
theorem dX2_firstBallFromWhite_21 : decode (mC M_X2_firstBallFromWhite) 21 = .ok (.iload_n 2, 1) := by decide +kernel
theorem dX2_firstBallFromWhite_22 : decode (mC M_X2_firstBallFromWhite) 22 = .ok (.iconst (-1), 1) := by decide +kernel
theorem dX2_firstBallFromWhite_23 : decode (mC M_X2_firstBallFromWhite) 23 = .ok (.if_icmp .ne 5, 3) := by decide +kernel
theorem dX2_firstBallFromWhite_26 : decode (mC M_X2_firstBallFromWhite) 26 = .ok (.iconst (-1), 1) := by decide +kernel
theorem dX2_firstBallFromWhite_27 : decode (mC M_X2_firstBallFromWhite) 27 = .ok (.ireturn, 1) := by decide +kernel
theorem dX2_firstBallFromWhite_28 : decode (mC M_X2_firstBallFromWhite) 28 = .ok (.aload_n 0, 1) := by decide +kernel
theorem dX2_firstBallFromWhite_29 : decode (mC M_X2_firstBallFromWhite) 29 = .ok (.iload_n 2, 1) := by decide +kernel
theorem dX2_firstBallFromWhite_30 : decode (mC M_X2_firstBallFromWhite) 30 = .ok (.invokevirtual 113, 3) := by decide +kernel
theorem dX2_firstBallFromWhite_33 : decode (mC M_X2_firstBallFromWhite) 33 = .ok (.istore 4, 2) := by decide +kernel
theorem dX2_firstBallFromWhite_35 : decode (mC M_X2_firstBallFromWhite) 35 = .ok (.iload 4, 2) := by decide +kernel
theorem dX2_firstBallFromWhite_37 : decode (mC M_X2_firstBallFromWhite) 37 = .ok (.iconst (-1), 1) := by decide +kernel
theorem dX2_firstBallFromWhite_38 : decode (mC M_X2_firstBallFromWhite) 38 = .ok (.if_icmp .eq 6, 3) := by decide +kernel
theorem dX2_firstBallFromWhite_41 : decode (mC M_X2_firstBallFromWhite) 41 = .ok (.iload 4, 2) := by decide +kernel
theorem dX2_firstBallFromWhite_43 : decode (mC M_X2_firstBallFromWhite) 43 = .ok (.ireturn, 1) := by decide +kernel
theorem dX2_firstBallFromWhite_44 : decode (mC M_X2_firstBallFromWhite) 44 = .ok (.iinc 3 1, 3) := by decide +kernel
theorem dX2_firstBallFromWhite_47 : decode (mC M_X2_firstBallFromWhite) 47 = .ok (.goto (-38), 3) := by decide +kernel
theorem dX2_firstBallFromWhite_50 : decode (mC M_X2_firstBallFromWhite) 50 = .ok (.iconst (-1), 1) := by decide +kernel
theorem dX2_firstBallFromWhite_51 : decode (mC M_X2_firstBallFromWhite) 51 = .ok (.ireturn, 1) := by decide +kernel
theorem dX3_init_0 : decode (mC M_X3_init) 0 = .ok (.aload_n 0, 1) := by decide +kernel
theorem dX3_init_1 : decode (mC M_X3_init) 1 = .ok (.invokespecial 3, 3) := by decide +kernel
theorem dX3_init_4 : decode (mC M_X3_init) 4 = .ok (.aload_n 0, 1) := by decide +kernel
theorem dX3_init_5 : decode (mC M_X3_init) 5 = .ok (.iconst (-1), 1) := by decide +kernel
theorem dX3_init_6 : decode (mC M_X3_init) 6 = .ok (.putfield 9, 3) := by decide +kernel
theorem dX3_init_9 : decode (mC M_X3_init) 9 = .ok (.aload_n 0, 1) := by decide +kernel
theorem dX3_init_10 : decode (mC M_X3_init) 10 = .ok (.iload_n 1, 1) := by decide +kernel
theorem dX3_init_11 : decode (mC M_X3_init) 11 = .ok (.putfield 15, 3) := by decide +kernel
theorem dX3_init_14 : decode (mC M_X3_init) 14 = .ok (.aload_n 0, 1) := by decide +kernel
theorem dX3_init_15 : decode (mC M_X3_init) 15 = .ok (.iload_n 2, 1) := by decide +kernel
theorem dX3_init_16 : decode (mC M_X3_init) 16 = .ok (.putfield 18, 3) := by decide +kernel
theorem dX3_init_19 : decode (mC M_X3_init) 19 = .ok (.return_, 1) := by decide +kernel
theorem dX3_close_0 : decode (mC M_X3_close) 0 = .ok (.aload_n 0, 1) := by decide +kernel
theorem dX3_close_1 : decode (mC M_X3_close) 1 = .ok (.iload_n 1, 1) := by decide +kernel
theorem dX3_close_2 : decode (mC M_X3_close) 2 = .ok (.putfield 9, 3) := by decide +kernel
theorem dX3_close_5 : decode (mC M_X3_close) 5 = .ok (.return_, 1) := by decide +kernel
theorem dX3_isClosed_0 : decode (mC M_X3_isClosed) 0 = .ok (.aload_n 0, 1) := by decide +kernel
theorem dX3_isClosed_1 : decode (mC M_X3_isClosed) 1 = .ok (.getfield 9, 3) := by decide +kernel
theorem dX3_isClosed_4 : decode (mC M_X3_isClosed) 4 = .ok (.iconst (-1), 1) := by decide +kernel
theorem dX3_isClosed_5 : decode (mC M_X3_isClosed) 5 = .ok (.if_icmp .eq 7, 3) := by decide +kernel
theorem dX3_isClosed_8 : decode (mC M_X3_isClosed) 8 = .ok (.iconst 1, 1) := by decide +kernel
theorem dX3_isClosed_9 : decode (mC M_X3_isClosed) 9 = .ok (.goto 4, 3) := by decide +kernel
theorem dX3_isClosed_12 : decode (mC M_X3_isClosed) 12 = .ok (.iconst 0, 1) := by decide +kernel
theorem dX3_isClosed_13 : decode (mC M_X3_isClosed) 13 = .ok (.ireturn, 1) := by decide +kernel
theorem dX3_coinsKept_0 : decode (mC M_X3_coinsKept) 0 = .ok (.aload_n 0, 1) := by decide +kernel
theorem dX3_coinsKept_1 : decode (mC M_X3_coinsKept) 1 = .ok (.getfield 9, 3) := by decide +kernel
theorem dX3_coinsKept_4 : decode (mC M_X3_coinsKept) 4 = .ok (.aload_n 0, 1) := by decide +kernel
theorem dX3_coinsKept_5 : decode (mC M_X3_coinsKept) 5 = .ok (.getfield 18, 3) := by decide +kernel
theorem dX3_coinsKept_8 : decode (mC M_X3_coinsKept) 8 = .ok (.isub, 1) := by decide +kernel
theorem dX3_coinsKept_9 : decode (mC M_X3_coinsKept) 9 = .ok (.iconst 5, 1) := by decide +kernel
theorem dX3_coinsKept_10 : decode (mC M_X3_coinsKept) 10 = .ok (.idiv, 1) := by decide +kernel
theorem dX3_coinsKept_11 : decode (mC M_X3_coinsKept) 11 = .ok (.ireturn, 1) := by decide +kernel
theorem dX4_init_0 : decode (mC M_X4_init) 0 = .ok (.aload_n 0, 1) := by decide +kernel
theorem dX4_init_1 : decode (mC M_X4_init) 1 = .ok (.invokespecial 3, 3) := by decide +kernel
theorem dX4_init_4 : decode (mC M_X4_init) 4 = .ok (.return_, 1) := by decide +kernel
theorem dX4_lay_0 : decode (mC M_X4_lay) 0 = .ok (.return_, 1) := by decide +kernel
theorem dX4_ballBeside_0 : decode (mC M_X4_ballBeside) 0 = .ok (.iconst 0, 1) := by decide +kernel
theorem dX4_ballBeside_1 : decode (mC M_X4_ballBeside) 1 = .ok (.istore_n 3, 1) := by decide +kernel
theorem dX4_ballBeside_2 : decode (mC M_X4_ballBeside) 2 = .ok (.iload_n 3, 1) := by decide +kernel
theorem dX4_ballBeside_3 : decode (mC M_X4_ballBeside) 3 = .ok (.bipush 8, 2) := by decide +kernel
theorem dX4_ballBeside_5 : decode (mC M_X4_ballBeside) 5 = .ok (.if_icmp .ge 26, 3) := by decide +kernel
theorem dX4_ballBeside_8 : decode (mC M_X4_ballBeside) 8 = .ok (.iload_n 3, 1) := by decide +kernel
theorem dX4_ballBeside_9 : decode (mC M_X4_ballBeside) 9 = .ok (.iload_n 1, 1) := by decide +kernel
theorem dX4_ballBeside_10 : decode (mC M_X4_ballBeside) 10 = .ok (.if_icmp .eq 15, 3) := by decide +kernel
theorem dX4_ballBeside_13 : decode (mC M_X4_ballBeside) 13 = .ok (.aload_n 0, 1) := by decide +kernel
theorem dX4_ballBeside_14 : decode (mC M_X4_ballBeside) 14 = .ok (.iload_n 1, 1) := by decide +kernel
theorem dX4_ballBeside_15 : decode (mC M_X4_ballBeside) 15 = .ok (.iload_n 3, 1) := by decide +kernel
theorem dX4_ballBeside_16 : decode (mC M_X4_ballBeside) 16 = .ok (.iload_n 2, 1) := by decide +kernel
theorem dX4_ballBeside_17 : decode (mC M_X4_ballBeside) 17 = .ok (.invokevirtual 9, 3) := by decide +kernel
theorem dX4_ballBeside_20 : decode (mC M_X4_ballBeside) 20 = .ok (.ifCond .eq 5, 3) := by decide +kernel
theorem dX4_ballBeside_23 : decode (mC M_X4_ballBeside) 23 = .ok (.iload_n 3, 1) := by decide +kernel
theorem dX4_ballBeside_24 : decode (mC M_X4_ballBeside) 24 = .ok (.ireturn, 1) := by decide +kernel
theorem dX4_ballBeside_25 : decode (mC M_X4_ballBeside) 25 = .ok (.iinc 3 1, 3) := by decide +kernel
theorem dX4_ballBeside_28 : decode (mC M_X4_ballBeside) 28 = .ok (.goto (-26), 3) := by decide +kernel
theorem dX4_ballBeside_31 : decode (mC M_X4_ballBeside) 31 = .ok (.iconst (-1), 1) := by decide +kernel
theorem dX4_ballBeside_32 : decode (mC M_X4_ballBeside) 32 = .ok (.ireturn, 1) := by decide +kernel
theorem dX4_note_0 : decode (mC M_X4_note) 0 = .ok (.return_, 1) := by decide +kernel
theorem dX4_isBeside_0 : decode (mC M_X4_isBeside) 0 = .ok (.iload_n 1, 1) := by decide +kernel
theorem dX4_isBeside_1 : decode (mC M_X4_isBeside) 1 = .ok (.ifCond .lt 47, 3) := by decide +kernel
theorem dX4_isBeside_4 : decode (mC M_X4_isBeside) 4 = .ok (.iload_n 1, 1) := by decide +kernel
theorem dX4_isBeside_5 : decode (mC M_X4_isBeside) 5 = .ok (.bipush 8, 2) := by decide +kernel
theorem dX4_isBeside_7 : decode (mC M_X4_isBeside) 7 = .ok (.if_icmp .ge 41, 3) := by decide +kernel
theorem dX4_isBeside_10 : decode (mC M_X4_isBeside) 10 = .ok (.iload_n 2, 1) := by decide +kernel
theorem dX4_isBeside_11 : decode (mC M_X4_isBeside) 11 = .ok (.ifCond .lt 37, 3) := by decide +kernel
theorem dX4_isBeside_14 : decode (mC M_X4_isBeside) 14 = .ok (.iload_n 2, 1) := by decide +kernel
theorem dX4_isBeside_15 : decode (mC M_X4_isBeside) 15 = .ok (.bipush 8, 2) := by decide +kernel
theorem dX4_isBeside_17 : decode (mC M_X4_isBeside) 17 = .ok (.if_icmp .ge 31, 3) := by decide +kernel
theorem dX4_isBeside_20 : decode (mC M_X4_isBeside) 20 = .ok (.iload_n 3, 1) := by decide +kernel
theorem dX4_isBeside_21 : decode (mC M_X4_isBeside) 21 = .ok (.ifCond .lt 27, 3) := by decide +kernel
theorem dX4_isBeside_24 : decode (mC M_X4_isBeside) 24 = .ok (.iload_n 3, 1) := by decide +kernel
theorem dX4_isBeside_25 : decode (mC M_X4_isBeside) 25 = .ok (.bipush 8, 2) := by decide +kernel
theorem dX4_isBeside_27 : decode (mC M_X4_isBeside) 27 = .ok (.if_icmp .ge 21, 3) := by decide +kernel
theorem dX4_isBeside_30 : decode (mC M_X4_isBeside) 30 = .ok (.aload_n 0, 1) := by decide +kernel
theorem dX4_isBeside_31 : decode (mC M_X4_isBeside) 31 = .ok (.getfield 15, 3) := by decide +kernel
theorem dX4_isBeside_34 : decode (mC M_X4_isBeside) 34 = .ok (.iload_n 1, 1) := by decide +kernel
theorem dX4_isBeside_35 : decode (mC M_X4_isBeside) 35 = .ok (.iaload, 1) := by decide +kernel
theorem dX4_isBeside_36 : decode (mC M_X4_isBeside) 36 = .ok (.ifCond .lt 12, 3) := by decide +kernel
theorem dX4_isBeside_39 : decode (mC M_X4_isBeside) 39 = .ok (.aload_n 0, 1) := by decide +kernel
theorem dX4_isBeside_40 : decode (mC M_X4_isBeside) 40 = .ok (.getfield 15, 3) := by decide +kernel
theorem dX4_isBeside_43 : decode (mC M_X4_isBeside) 43 = .ok (.iload_n 2, 1) := by decide +kernel
theorem dX4_isBeside_44 : decode (mC M_X4_isBeside) 44 = .ok (.iaload, 1) := by decide +kernel
theorem dX4_isBeside_45 : decode (mC M_X4_isBeside) 45 = .ok (.ifCond .ge 5, 3) := by decide +kernel
theorem dX4_isBeside_48 : decode (mC M_X4_isBeside) 48 = .ok (.iconst 0, 1) := by decide +kernel
theorem dX4_isBeside_49 : decode (mC M_X4_isBeside) 49 = .ok (.ireturn, 1) := by decide +kernel
theorem dX4_isBeside_50 : decode (mC M_X4_isBeside) 50 = .ok (.aload_n 0, 1) := by decide +kernel
theorem dX4_isBeside_51 : decode (mC M_X4_isBeside) 51 = .ok (.getfield 15, 3) := by decide +kernel
theorem dX4_isBeside_54 : decode (mC M_X4_isBeside) 54 = .ok (.iload_n 2, 1) := by decide +kernel
theorem dX4_isBeside_55 : decode (mC M_X4_isBeside) 55 = .ok (.iaload, 1) := by decide +kernel
theorem dX4_isBeside_56 : decode (mC M_X4_isBeside) 56 = .ok (.bipush 16, 2) := by decide +kernel
theorem dX4_isBeside_58 : decode (mC M_X4_isBeside) 58 = .ok (.irem, 1) := by decide +kernel
theorem dX4_isBeside_59 : decode (mC M_X4_isBeside) 59 = .ok (.aload_n 0, 1) := by decide +kernel
theorem dX4_isBeside_60 : decode (mC M_X4_isBeside) 60 = .ok (.getfield 15, 3) := by decide +kernel
theorem dX4_isBeside_63 : decode (mC M_X4_isBeside) 63 = .ok (.iload_n 1, 1) := by decide +kernel
theorem dX4_isBeside_64 : decode (mC M_X4_isBeside) 64 = .ok (.iaload, 1) := by decide +kernel
theorem dX4_isBeside_65 : decode (mC M_X4_isBeside) 65 = .ok (.bipush 16, 2) := by decide +kernel
theorem dX4_isBeside_67 : decode (mC M_X4_isBeside) 67 = .ok (.irem, 1) := by decide +kernel
theorem dX4_isBeside_68 : decode (mC M_X4_isBeside) 68 = .ok (.isub, 1) := by decide +kernel
theorem dX4_isBeside_69 : decode (mC M_X4_isBeside) 69 = .ok (.getstatic 19, 3) := by decide +kernel
theorem dX4_isBeside_72 : decode (mC M_X4_isBeside) 72 = .ok (.iload_n 3, 1) := by decide +kernel
theorem dX4_isBeside_73 : decode (mC M_X4_isBeside) 73 = .ok (.iaload, 1) := by decide +kernel
theorem dX4_isBeside_74 : decode (mC M_X4_isBeside) 74 = .ok (.if_icmp .ne 34, 3) := by decide +kernel
theorem dX4_isBeside_77 : decode (mC M_X4_isBeside) 77 = .ok (.aload_n 0, 1) := by decide +kernel
theorem dX4_isBeside_78 : decode (mC M_X4_isBeside) 78 = .ok (.getfield 15, 3) := by decide +kernel
theorem dX4_isBeside_81 : decode (mC M_X4_isBeside) 81 = .ok (.iload_n 2, 1) := by decide +kernel
theorem dX4_isBeside_82 : decode (mC M_X4_isBeside) 82 = .ok (.iaload, 1) := by decide +kernel
theorem dX4_isBeside_83 : decode (mC M_X4_isBeside) 83 = .ok (.bipush 16, 2) := by decide +kernel
theorem dX4_isBeside_85 : decode (mC M_X4_isBeside) 85 = .ok (.idiv, 1) := by decide +kernel
theorem dX4_isBeside_86 : decode (mC M_X4_isBeside) 86 = .ok (.aload_n 0, 1) := by decide +kernel
theorem dX4_isBeside_87 : decode (mC M_X4_isBeside) 87 = .ok (.getfield 15, 3) := by decide +kernel
theorem dX4_isBeside_90 : decode (mC M_X4_isBeside) 90 = .ok (.iload_n 1, 1) := by decide +kernel
theorem dX4_isBeside_91 : decode (mC M_X4_isBeside) 91 = .ok (.iaload, 1) := by decide +kernel
theorem dX4_isBeside_92 : decode (mC M_X4_isBeside) 92 = .ok (.bipush 16, 2) := by decide +kernel
theorem dX4_isBeside_94 : decode (mC M_X4_isBeside) 94 = .ok (.idiv, 1) := by decide +kernel
theorem dX4_isBeside_95 : decode (mC M_X4_isBeside) 95 = .ok (.isub, 1) := by decide +kernel
theorem dX4_isBeside_96 : decode (mC M_X4_isBeside) 96 = .ok (.getstatic 22, 3) := by decide +kernel
theorem dX4_isBeside_99 : decode (mC M_X4_isBeside) 99 = .ok (.iload_n 3, 1) := by decide +kernel
theorem dX4_isBeside_100 : decode (mC M_X4_isBeside) 100 = .ok (.iaload, 1) := by decide +kernel
theorem dX4_isBeside_101 : decode (mC M_X4_isBeside) 101 = .ok (.if_icmp .ne 7, 3) := by decide +kernel
theorem dX4_isBeside_104 : decode (mC M_X4_isBeside) 104 = .ok (.iconst 1, 1) := by decide +kernel
theorem dX4_isBeside_105 : decode (mC M_X4_isBeside) 105 = .ok (.goto 4, 3) := by decide +kernel
theorem dX4_isBeside_108 : decode (mC M_X4_isBeside) 108 = .ok (.iconst 0, 1) := by decide +kernel
theorem dX4_isBeside_109 : decode (mC M_X4_isBeside) 109 = .ok (.ireturn, 1) := by decide +kernel
theorem dX5_init_0 : decode (mC M_X5_init) 0 = .ok (.aload_n 0, 1) := by decide +kernel
theorem dX5_init_1 : decode (mC M_X5_init) 1 = .ok (.invokespecial 3, 3) := by decide +kernel
theorem dX5_init_4 : decode (mC M_X5_init) 4 = .ok (.aload_n 0, 1) := by decide +kernel
theorem dX5_init_5 : decode (mC M_X5_init) 5 = .ok (.iconst (-1), 1) := by decide +kernel
theorem dX5_init_6 : decode (mC M_X5_init) 6 = .ok (.putfield 9, 3) := by decide +kernel
theorem dX5_init_9 : decode (mC M_X5_init) 9 = .ok (.aload_n 0, 1) := by decide +kernel
theorem dX5_init_10 : decode (mC M_X5_init) 10 = .ok (.iload_n 1, 1) := by decide +kernel
theorem dX5_init_11 : decode (mC M_X5_init) 11 = .ok (.putfield 15, 3) := by decide +kernel
theorem dX5_init_14 : decode (mC M_X5_init) 14 = .ok (.aload_n 0, 1) := by decide +kernel
theorem dX5_init_15 : decode (mC M_X5_init) 15 = .ok (.iload_n 2, 1) := by decide +kernel
theorem dX5_init_16 : decode (mC M_X5_init) 16 = .ok (.putfield 18, 3) := by decide +kernel
theorem dX5_init_19 : decode (mC M_X5_init) 19 = .ok (.aload_n 0, 1) := by decide +kernel
theorem dX5_init_20 : decode (mC M_X5_init) 20 = .ok (.iload_n 3, 1) := by decide +kernel
theorem dX5_init_21 : decode (mC M_X5_init) 21 = .ok (.putfield 21, 3) := by decide +kernel
theorem dX5_init_24 : decode (mC M_X5_init) 24 = .ok (.return_, 1) := by decide +kernel
theorem dX5_close_0 : decode (mC M_X5_close) 0 = .ok (.aload_n 0, 1) := by decide +kernel
theorem dX5_close_1 : decode (mC M_X5_close) 1 = .ok (.iload_n 1, 1) := by decide +kernel
theorem dX5_close_2 : decode (mC M_X5_close) 2 = .ok (.putfield 9, 3) := by decide +kernel
theorem dX5_close_5 : decode (mC M_X5_close) 5 = .ok (.aload_n 0, 1) := by decide +kernel
theorem dX5_close_6 : decode (mC M_X5_close) 6 = .ok (.iload_n 2, 1) := by decide +kernel
theorem dX5_close_7 : decode (mC M_X5_close) 7 = .ok (.putfield 24, 3) := by decide +kernel
theorem dX5_close_10 : decode (mC M_X5_close) 10 = .ok (.return_, 1) := by decide +kernel
theorem dX5_isClosed_0 : decode (mC M_X5_isClosed) 0 = .ok (.aload_n 0, 1) := by decide +kernel
theorem dX5_isClosed_1 : decode (mC M_X5_isClosed) 1 = .ok (.getfield 9, 3) := by decide +kernel
theorem dX5_isClosed_4 : decode (mC M_X5_isClosed) 4 = .ok (.iconst (-1), 1) := by decide +kernel
theorem dX5_isClosed_5 : decode (mC M_X5_isClosed) 5 = .ok (.if_icmp .eq 7, 3) := by decide +kernel
theorem dX5_isClosed_8 : decode (mC M_X5_isClosed) 8 = .ok (.iconst 1, 1) := by decide +kernel
theorem dX5_isClosed_9 : decode (mC M_X5_isClosed) 9 = .ok (.goto 4, 3) := by decide +kernel
theorem dX5_isClosed_12 : decode (mC M_X5_isClosed) 12 = .ok (.iconst 0, 1) := by decide +kernel
theorem dX5_isClosed_13 : decode (mC M_X5_isClosed) 13 = .ok (.ireturn, 1) := by decide +kernel
theorem dX6_init_0 : decode (mC M_X6_init) 0 = .ok (.aload_n 0, 1) := by decide +kernel
theorem dX6_init_1 : decode (mC M_X6_init) 1 = .ok (.invokespecial 3, 3) := by decide +kernel
theorem dX6_init_4 : decode (mC M_X6_init) 4 = .ok (.aload_n 0, 1) := by decide +kernel
theorem dX6_init_5 : decode (mC M_X6_init) 5 = .ok (.bipush 8, 2) := by decide +kernel
theorem dX6_init_7 : decode (mC M_X6_init) 7 = .ok (.newarray .int, 2) := by decide +kernel
theorem dX6_init_9 : decode (mC M_X6_init) 9 = .ok (.putfield 9, 3) := by decide +kernel
theorem dX6_init_12 : decode (mC M_X6_init) 12 = .ok (.aload_n 0, 1) := by decide +kernel
theorem dX6_init_13 : decode (mC M_X6_init) 13 = .ok (.bipush 8, 2) := by decide +kernel
theorem dX6_init_15 : decode (mC M_X6_init) 15 = .ok (.newarray .int, 2) := by decide +kernel
theorem dX6_init_17 : decode (mC M_X6_init) 17 = .ok (.putfield 15, 3) := by decide +kernel
theorem dX6_init_20 : decode (mC M_X6_init) 20 = .ok (.aload_n 0, 1) := by decide +kernel
theorem dX6_init_21 : decode (mC M_X6_init) 21 = .ok (.bipush 8, 2) := by decide +kernel
theorem dX6_init_23 : decode (mC M_X6_init) 23 = .ok (.newarray .int, 2) := by decide +kernel
theorem dX6_init_25 : decode (mC M_X6_init) 25 = .ok (.putfield 18, 3) := by decide +kernel
theorem dX6_init_28 : decode (mC M_X6_init) 28 = .ok (.aload_n 0, 1) := by decide +kernel
theorem dX6_init_29 : decode (mC M_X6_init) 29 = .ok (.bipush 8, 2) := by decide +kernel
theorem dX6_init_31 : decode (mC M_X6_init) 31 = .ok (.newarray .boolean, 2) := by decide +kernel
theorem dX6_init_33 : decode (mC M_X6_init) 33 = .ok (.putfield 21, 3) := by decide +kernel
theorem dX6_init_36 : decode (mC M_X6_init) 36 = .ok (.return_, 1) := by decide +kernel
theorem dX6_run_0 : decode (mC M_X6_run) 0 = .ok (.iconst 0, 1) := by decide +kernel
theorem dX6_run_1 : decode (mC M_X6_run) 1 = .ok (.istore 4, 2) := by decide +kernel
theorem dX6_run_3 : decode (mC M_X6_run) 3 = .ok (.iload 4, 2) := by decide +kernel
theorem dX6_run_5 : decode (mC M_X6_run) 5 = .ok (.bipush 8, 2) := by decide +kernel
theorem dX6_run_7 : decode (mC M_X6_run) 7 = .ok (.if_icmp .ge 51, 3) := by decide +kernel
theorem dX6_run_10 : decode (mC M_X6_run) 10 = .ok (.iload 4, 2) := by decide +kernel
theorem dX6_run_12 : decode (mC M_X6_run) 12 = .ok (.aload_n 1, 1) := by decide +kernel
theorem dX6_run_13 : decode (mC M_X6_run) 13 = .ok (.arraylength, 1) := by decide +kernel
theorem dX6_run_14 : decode (mC M_X6_run) 14 = .ok (.if_icmp .ge 44, 3) := by decide +kernel
theorem dX6_run_17 : decode (mC M_X6_run) 17 = .ok (.aload_n 0, 1) := by decide +kernel
theorem dX6_run_18 : decode (mC M_X6_run) 18 = .ok (.getfield 9, 3) := by decide +kernel
theorem dX6_run_21 : decode (mC M_X6_run) 21 = .ok (.iload 4, 2) := by decide +kernel
theorem dX6_run_23 : decode (mC M_X6_run) 23 = .ok (.aload_n 1, 1) := by decide +kernel
theorem dX6_run_24 : decode (mC M_X6_run) 24 = .ok (.iload 4, 2) := by decide +kernel
theorem dX6_run_26 : decode (mC M_X6_run) 26 = .ok (.iaload, 1) := by decide +kernel
theorem dX6_run_27 : decode (mC M_X6_run) 27 = .ok (.iastore, 1) := by decide +kernel
theorem dX6_run_28 : decode (mC M_X6_run) 28 = .ok (.aload_n 0, 1) := by decide +kernel
theorem dX6_run_29 : decode (mC M_X6_run) 29 = .ok (.getfield 15, 3) := by decide +kernel
theorem dX6_run_32 : decode (mC M_X6_run) 32 = .ok (.iload 4, 2) := by decide +kernel
theorem dX6_run_34 : decode (mC M_X6_run) 34 = .ok (.iconst 0, 1) := by decide +kernel
theorem dX6_run_35 : decode (mC M_X6_run) 35 = .ok (.iastore, 1) := by decide +kernel
theorem dX6_run_36 : decode (mC M_X6_run) 36 = .ok (.aload_n 0, 1) := by decide +kernel
theorem dX6_run_37 : decode (mC M_X6_run) 37 = .ok (.getfield 18, 3) := by decide +kernel
theorem dX6_run_40 : decode (mC M_X6_run) 40 = .ok (.iload 4, 2) := by decide +kernel
theorem dX6_run_42 : decode (mC M_X6_run) 42 = .ok (.iconst 0, 1) := by decide +kernel
theorem dX6_run_43 : decode (mC M_X6_run) 43 = .ok (.iastore, 1) := by decide +kernel
theorem dX6_run_44 : decode (mC M_X6_run) 44 = .ok (.aload_n 0, 1) := by decide +kernel
theorem dX6_run_45 : decode (mC M_X6_run) 45 = .ok (.getfield 21, 3) := by decide +kernel
theorem dX6_run_48 : decode (mC M_X6_run) 48 = .ok (.iload 4, 2) := by decide +kernel
theorem dX6_run_50 : decode (mC M_X6_run) 50 = .ok (.iconst 0, 1) := by decide +kernel
theorem dX6_run_51 : decode (mC M_X6_run) 51 = .ok (.bastore, 1) := by decide +kernel
theorem dX6_run_52 : decode (mC M_X6_run) 52 = .ok (.iinc 4 1, 3) := by decide +kernel
theorem dX6_run_55 : decode (mC M_X6_run) 55 = .ok (.goto (-52), 3) := by decide +kernel
theorem dX6_run_58 : decode (mC M_X6_run) 58 = .ok (.aload_n 0, 1) := by decide +kernel
theorem dX6_run_59 : decode (mC M_X6_run) 59 = .ok (.iconst 0, 1) := by decide +kernel
theorem dX6_run_60 : decode (mC M_X6_run) 60 = .ok (.putfield 25, 3) := by decide +kernel
theorem dX6_run_63 : decode (mC M_X6_run) 63 = .ok (.aload_n 0, 1) := by decide +kernel
theorem dX6_run_64 : decode (mC M_X6_run) 64 = .ok (.iconst (-1), 1) := by decide +kernel
theorem dX6_run_65 : decode (mC M_X6_run) 65 = .ok (.putfield 29, 3) := by decide +kernel
theorem dX6_run_68 : decode (mC M_X6_run) 68 = .ok (.aload_n 0, 1) := by decide +kernel
theorem dX6_run_69 : decode (mC M_X6_run) 69 = .ok (.getfield 15, 3) := by decide +kernel
theorem dX6_run_72 : decode (mC M_X6_run) 72 = .ok (.iconst 0, 1) := by decide +kernel
theorem dX6_run_73 : decode (mC M_X6_run) 73 = .ok (.iload_n 2, 1) := by decide +kernel
theorem dX6_run_74 : decode (mC M_X6_run) 74 = .ok (.iastore, 1) := by decide +kernel
theorem dX6_run_75 : decode (mC M_X6_run) 75 = .ok (.aload_n 0, 1) := by decide +kernel
theorem dX6_run_76 : decode (mC M_X6_run) 76 = .ok (.getfield 18, 3) := by decide +kernel
theorem dX6_run_79 : decode (mC M_X6_run) 79 = .ok (.iconst 0, 1) := by decide +kernel
theorem dX6_run_80 : decode (mC M_X6_run) 80 = .ok (.iload_n 3, 1) := by decide +kernel
theorem dX6_run_81 : decode (mC M_X6_run) 81 = .ok (.iastore, 1) := by decide +kernel
theorem dX6_run_82 : decode (mC M_X6_run) 82 = .ok (.aload_n 0, 1) := by decide +kernel
theorem dX6_run_83 : decode (mC M_X6_run) 83 = .ok (.invokevirtual 32, 3) := by decide +kernel
theorem dX6_run_86 : decode (mC M_X6_run) 86 = .ok (.iconst 0, 1) := by decide +kernel
theorem dX6_run_87 : decode (mC M_X6_run) 87 = .ok (.istore 4, 2) := by decide +kernel
theorem dX6_run_89 : decode (mC M_X6_run) 89 = .ok (.iload 4, 2) := by decide +kernel
theorem dX6_run_91 : decode (mC M_X6_run) 91 = .ok (.sipush 300, 3) := by decide +kernel
theorem dX6_run_94 : decode (mC M_X6_run) 94 = .ok (.if_icmp .ge 47, 3) := by decide +kernel
theorem dX6_run_97 : decode (mC M_X6_run) 97 = .ok (.aload_n 0, 1) := by decide +kernel
theorem dX6_run_98 : decode (mC M_X6_run) 98 = .ok (.invokevirtual 35, 3) := by decide +kernel
theorem dX6_run_101 : decode (mC M_X6_run) 101 = .ok (.ifCond .eq 40, 3) := by decide +kernel
theorem dX6_run_104 : decode (mC M_X6_run) 104 = .ok (.iconst 0, 1) := by decide +kernel
theorem dX6_run_105 : decode (mC M_X6_run) 105 = .ok (.istore 5, 2) := by decide +kernel
theorem dX6_run_107 : decode (mC M_X6_run) 107 = .ok (.iload 5, 2) := by decide +kernel
theorem dX6_run_109 : decode (mC M_X6_run) 109 = .ok (.bipush 8, 2) := by decide +kernel
theorem dX6_run_111 : decode (mC M_X6_run) 111 = .ok (.if_icmp .ge 24, 3) := by decide +kernel
theorem dX6_run_114 : decode (mC M_X6_run) 114 = .ok (.aload_n 0, 1) := by decide +kernel
theorem dX6_run_115 : decode (mC M_X6_run) 115 = .ok (.iload 5, 2) := by decide +kernel
theorem dX6_run_117 : decode (mC M_X6_run) 117 = .ok (.invokevirtual 39, 3) := by decide +kernel
theorem dX6_run_120 : decode (mC M_X6_run) 120 = .ok (.ifCond .eq 9, 3) := by decide +kernel
theorem dX6_run_123 : decode (mC M_X6_run) 123 = .ok (.aload_n 0, 1) := by decide +kernel
theorem dX6_run_124 : decode (mC M_X6_run) 124 = .ok (.iload 5, 2) := by decide +kernel
theorem dX6_run_126 : decode (mC M_X6_run) 126 = .ok (.invokevirtual 43, 3) := by decide +kernel
theorem dX6_run_129 : decode (mC M_X6_run) 129 = .ok (.iinc 5 1, 3) := by decide +kernel
theorem dX6_run_132 : decode (mC M_X6_run) 132 = .ok (.goto (-25), 3) := by decide +kernel
theorem dX6_run_135 : decode (mC M_X6_run) 135 = .ok (.iinc 4 1, 3) := by decide +kernel
theorem dX6_run_138 : decode (mC M_X6_run) 138 = .ok (.goto (-49), 3) := by decide +kernel
theorem dX6_run_141 : decode (mC M_X6_run) 141 = .ok (.return_, 1) := by decide +kernel
theorem dX6_droppedNumbers_0 : decode (mC M_X6_droppedNumbers) 0 = .ok (.iconst 0, 1) := by decide +kernel
theorem dX6_droppedNumbers_1 : decode (mC M_X6_droppedNumbers) 1 = .ok (.istore_n 1, 1) := by decide +kernel
theorem dX6_droppedNumbers_2 : decode (mC M_X6_droppedNumbers) 2 = .ok (.iconst 1, 1) := by decide +kernel
theorem dX6_droppedNumbers_3 : decode (mC M_X6_droppedNumbers) 3 = .ok (.istore_n 2, 1) := by decide +kernel
theorem dX6_droppedNumbers_4 : decode (mC M_X6_droppedNumbers) 4 = .ok (.iload_n 2, 1) := by decide +kernel
theorem dX6_droppedNumbers_5 : decode (mC M_X6_droppedNumbers) 5 = .ok (.bipush 8, 2) := by decide +kernel
theorem dX6_droppedNumbers_7 : decode (mC M_X6_droppedNumbers) 7 = .ok (.if_icmp .ge 22, 3) := by decide +kernel
theorem dX6_droppedNumbers_10 : decode (mC M_X6_droppedNumbers) 10 = .ok (.aload_n 0, 1) := by decide +kernel
theorem dX6_droppedNumbers_11 : decode (mC M_X6_droppedNumbers) 11 = .ok (.getfield 21, 3) := by decide +kernel
theorem dX6_droppedNumbers_14 : decode (mC M_X6_droppedNumbers) 14 = .ok (.iload_n 2, 1) := by decide +kernel
theorem dX6_droppedNumbers_15 : decode (mC M_X6_droppedNumbers) 15 = .ok (.baload, 1) := by decide +kernel
theorem dX6_droppedNumbers_16 : decode (mC M_X6_droppedNumbers) 16 = .ok (.ifCond .eq 7, 3) := by decide +kernel
theorem dX6_droppedNumbers_19 : decode (mC M_X6_droppedNumbers) 19 = .ok (.iload_n 1, 1) := by decide +kernel
theorem dX6_droppedNumbers_20 : decode (mC M_X6_droppedNumbers) 20 = .ok (.iload_n 2, 1) := by decide +kernel
theorem dX6_droppedNumbers_21 : decode (mC M_X6_droppedNumbers) 21 = .ok (.iadd, 1) := by decide +kernel
theorem dX6_droppedNumbers_22 : decode (mC M_X6_droppedNumbers) 22 = .ok (.istore_n 1, 1) := by decide +kernel
theorem dX6_droppedNumbers_23 : decode (mC M_X6_droppedNumbers) 23 = .ok (.iinc 2 1, 3) := by decide +kernel
theorem dX6_droppedNumbers_26 : decode (mC M_X6_droppedNumbers) 26 = .ok (.goto (-22), 3) := by decide +kernel
theorem dX6_droppedNumbers_29 : decode (mC M_X6_droppedNumbers) 29 = .ok (.iload_n 1, 1) := by decide +kernel
theorem dX6_droppedNumbers_30 : decode (mC M_X6_droppedNumbers) 30 = .ok (.ireturn, 1) := by decide +kernel
theorem dX6_isSomeRolling_0 : decode (mC M_X6_isSomeRolling) 0 = .ok (.iconst 0, 1) := by decide +kernel
theorem dX6_isSomeRolling_1 : decode (mC M_X6_isSomeRolling) 1 = .ok (.istore_n 1, 1) := by decide +kernel
theorem dX6_isSomeRolling_2 : decode (mC M_X6_isSomeRolling) 2 = .ok (.iload_n 1, 1) := by decide +kernel
theorem dX6_isSomeRolling_3 : decode (mC M_X6_isSomeRolling) 3 = .ok (.bipush 8, 2) := by decide +kernel
theorem dX6_isSomeRolling_5 : decode (mC M_X6_isSomeRolling) 5 = .ok (.if_icmp .ge 19, 3) := by decide +kernel
theorem dX6_isSomeRolling_8 : decode (mC M_X6_isSomeRolling) 8 = .ok (.aload_n 0, 1) := by decide +kernel
theorem dX6_isSomeRolling_9 : decode (mC M_X6_isSomeRolling) 9 = .ok (.iload_n 1, 1) := by decide +kernel
theorem dX6_isSomeRolling_10 : decode (mC M_X6_isSomeRolling) 10 = .ok (.invokevirtual 39, 3) := by decide +kernel
theorem dX6_isSomeRolling_13 : decode (mC M_X6_isSomeRolling) 13 = .ok (.ifCond .eq 5, 3) := by decide +kernel
theorem dX6_isSomeRolling_16 : decode (mC M_X6_isSomeRolling) 16 = .ok (.iconst 1, 1) := by decide +kernel
theorem dX6_isSomeRolling_17 : decode (mC M_X6_isSomeRolling) 17 = .ok (.ireturn, 1) := by decide +kernel
theorem dX6_isSomeRolling_18 : decode (mC M_X6_isSomeRolling) 18 = .ok (.iinc 1 1, 3) := by decide +kernel
theorem dX6_isSomeRolling_21 : decode (mC M_X6_isSomeRolling) 21 = .ok (.goto (-19), 3) := by decide +kernel
theorem dX6_isSomeRolling_24 : decode (mC M_X6_isSomeRolling) 24 = .ok (.iconst 0, 1) := by decide +kernel
theorem dX6_isSomeRolling_25 : decode (mC M_X6_isSomeRolling) 25 = .ok (.ireturn, 1) := by decide +kernel
theorem dX6_isRolling_0 : decode (mC M_X6_isRolling) 0 = .ok (.iload_n 1, 1) := by decide +kernel
theorem dX6_isRolling_1 : decode (mC M_X6_isRolling) 1 = .ok (.ifCond .lt 32, 3) := by decide +kernel
theorem dX6_isRolling_4 : decode (mC M_X6_isRolling) 4 = .ok (.iload_n 1, 1) := by decide +kernel
theorem dX6_isRolling_5 : decode (mC M_X6_isRolling) 5 = .ok (.bipush 8, 2) := by decide +kernel
theorem dX6_isRolling_7 : decode (mC M_X6_isRolling) 7 = .ok (.if_icmp .ge 26, 3) := by decide +kernel
theorem dX6_isRolling_10 : decode (mC M_X6_isRolling) 10 = .ok (.aload_n 0, 1) := by decide +kernel
theorem dX6_isRolling_11 : decode (mC M_X6_isRolling) 11 = .ok (.getfield 9, 3) := by decide +kernel
theorem dX6_isRolling_14 : decode (mC M_X6_isRolling) 14 = .ok (.iload_n 1, 1) := by decide +kernel
theorem dX6_isRolling_15 : decode (mC M_X6_isRolling) 15 = .ok (.iaload, 1) := by decide +kernel
theorem dX6_isRolling_16 : decode (mC M_X6_isRolling) 16 = .ok (.iconst (-1), 1) := by decide +kernel
theorem dX6_isRolling_17 : decode (mC M_X6_isRolling) 17 = .ok (.if_icmp .eq 16, 3) := by decide +kernel
theorem dX6_isRolling_20 : decode (mC M_X6_isRolling) 20 = .ok (.aload_n 0, 1) := by decide +kernel
theorem dX6_isRolling_21 : decode (mC M_X6_isRolling) 21 = .ok (.getfield 18, 3) := by decide +kernel
theorem dX6_isRolling_24 : decode (mC M_X6_isRolling) 24 = .ok (.iload_n 1, 1) := by decide +kernel
theorem dX6_isRolling_25 : decode (mC M_X6_isRolling) 25 = .ok (.iaload, 1) := by decide +kernel
theorem dX6_isRolling_26 : decode (mC M_X6_isRolling) 26 = .ok (.ifCond .le 7, 3) := by decide +kernel
theorem dX6_isRolling_29 : decode (mC M_X6_isRolling) 29 = .ok (.iconst 1, 1) := by decide +kernel
theorem dX6_isRolling_30 : decode (mC M_X6_isRolling) 30 = .ok (.goto 4, 3) := by decide +kernel
theorem dX6_isRolling_33 : decode (mC M_X6_isRolling) 33 = .ok (.iconst 0, 1) := by decide +kernel
theorem dX6_isRolling_34 : decode (mC M_X6_isRolling) 34 = .ok (.ireturn, 1) := by decide +kernel
theorem dX6_act_0 : decode (mC M_X6_act) 0 = .ok (.aload_n 0, 1) := by decide +kernel
theorem dX6_act_1 : decode (mC M_X6_act) 1 = .ok (.getfield 9, 3) := by decide +kernel
theorem dX6_act_4 : decode (mC M_X6_act) 4 = .ok (.iload_n 1, 1) := by decide +kernel
theorem dX6_act_5 : decode (mC M_X6_act) 5 = .ok (.iaload, 1) := by decide +kernel
theorem dX6_act_6 : decode (mC M_X6_act) 6 = .ok (.aload_n 0, 1) := by decide +kernel
theorem dX6_act_7 : decode (mC M_X6_act) 7 = .ok (.getfield 15, 3) := by decide +kernel
theorem dX6_act_10 : decode (mC M_X6_act) 10 = .ok (.iload_n 1, 1) := by decide +kernel
theorem dX6_act_11 : decode (mC M_X6_act) 11 = .ok (.iaload, 1) := by decide +kernel
theorem dX6_act_12 : decode (mC M_X6_act) 12 = .ok (.invokestatic 47, 3) := by decide +kernel
theorem dX6_act_15 : decode (mC M_X6_act) 15 = .ok (.istore_n 2, 1) := by decide +kernel
theorem dX6_act_16 : decode (mC M_X6_act) 16 = .ok (.iload_n 2, 1) := by decide +kernel
theorem dX6_act_17 : decode (mC M_X6_act) 17 = .ok (.iconst (-1), 1) := by decide +kernel
theorem dX6_act_18 : decode (mC M_X6_act) 18 = .ok (.if_icmp .ne 35, 3) := by decide +kernel
theorem dX6_act_21 : decode (mC M_X6_act) 21 = .ok (.aload_n 0, 1) := by decide +kernel
theorem dX6_act_22 : decode (mC M_X6_act) 22 = .ok (.getfield 15, 3) := by decide +kernel
theorem dX6_act_25 : decode (mC M_X6_act) 25 = .ok (.iload_n 1, 1) := by decide +kernel
theorem dX6_act_26 : decode (mC M_X6_act) 26 = .ok (.aload_n 0, 1) := by decide +kernel
theorem dX6_act_27 : decode (mC M_X6_act) 27 = .ok (.getfield 9, 3) := by decide +kernel
theorem dX6_act_30 : decode (mC M_X6_act) 30 = .ok (.iload_n 1, 1) := by decide +kernel
theorem dX6_act_31 : decode (mC M_X6_act) 31 = .ok (.iaload, 1) := by decide +kernel
theorem dX6_act_32 : decode (mC M_X6_act) 32 = .ok (.aload_n 0, 1) := by decide +kernel
theorem dX6_act_33 : decode (mC M_X6_act) 33 = .ok (.getfield 15, 3) := by decide +kernel
theorem dX6_act_36 : decode (mC M_X6_act) 36 = .ok (.iload_n 1, 1) := by decide +kernel
theorem dX6_act_37 : decode (mC M_X6_act) 37 = .ok (.iaload, 1) := by decide +kernel
theorem dX6_act_38 : decode (mC M_X6_act) 38 = .ok (.invokestatic 51, 3) := by decide +kernel
theorem dX6_act_41 : decode (mC M_X6_act) 41 = .ok (.iastore, 1) := by decide +kernel
theorem dX6_act_42 : decode (mC M_X6_act) 42 = .ok (.aload_n 0, 1) := by decide +kernel
theorem dX6_act_43 : decode (mC M_X6_act) 43 = .ok (.getfield 18, 3) := by decide +kernel
theorem dX6_act_46 : decode (mC M_X6_act) 46 = .ok (.iload_n 1, 1) := by decide +kernel
theorem dX6_act_47 : decode (mC M_X6_act) 47 = .ok (.dup2, 1) := by decide +kernel
theorem dX6_act_48 : decode (mC M_X6_act) 48 = .ok (.iaload, 1) := by decide +kernel
theorem dX6_act_49 : decode (mC M_X6_act) 49 = .ok (.iconst 1, 1) := by decide +kernel
theorem dX6_act_50 : decode (mC M_X6_act) 50 = .ok (.isub, 1) := by decide +kernel
theorem dX6_act_51 : decode (mC M_X6_act) 51 = .ok (.iastore, 1) := by decide +kernel
theorem dX6_act_52 : decode (mC M_X6_act) 52 = .ok (.return_, 1) := by decide +kernel
theorem dX6_act_53 : decode (mC M_X6_act) 53 = .ok (.aload_n 0, 1) := by decide +kernel
theorem dX6_act_54 : decode (mC M_X6_act) 54 = .ok (.iload_n 1, 1) := by decide +kernel
theorem dX6_act_55 : decode (mC M_X6_act) 55 = .ok (.aload_n 0, 1) := by decide +kernel
theorem dX6_act_56 : decode (mC M_X6_act) 56 = .ok (.getfield 15, 3) := by decide +kernel
theorem dX6_act_59 : decode (mC M_X6_act) 59 = .ok (.iload_n 1, 1) := by decide +kernel
theorem dX6_act_60 : decode (mC M_X6_act) 60 = .ok (.iaload, 1) := by decide +kernel
theorem dX6_act_61 : decode (mC M_X6_act) 61 = .ok (.invokevirtual 54, 3) := by decide +kernel
theorem dX6_act_64 : decode (mC M_X6_act) 64 = .ok (.istore_n 3, 1) := by decide +kernel
theorem dX6_act_65 : decode (mC M_X6_act) 65 = .ok (.iload_n 3, 1) := by decide +kernel
theorem dX6_act_66 : decode (mC M_X6_act) 66 = .ok (.ifCond .lt 18, 3) := by decide +kernel
theorem dX6_act_69 : decode (mC M_X6_act) 69 = .ok (.iload_n 3, 1) := by decide +kernel
theorem dX6_act_70 : decode (mC M_X6_act) 70 = .ok (.bipush 8, 2) := by decide +kernel
theorem dX6_act_72 : decode (mC M_X6_act) 72 = .ok (.if_icmp .ge 12, 3) := by decide +kernel
theorem dX6_act_75 : decode (mC M_X6_act) 75 = .ok (.aload_n 0, 1) := by decide +kernel
theorem dX6_act_76 : decode (mC M_X6_act) 76 = .ok (.iload_n 1, 1) := by decide +kernel
theorem dX6_act_77 : decode (mC M_X6_act) 77 = .ok (.iload_n 3, 1) := by decide +kernel
theorem dX6_act_78 : decode (mC M_X6_act) 78 = .ok (.invokevirtual 57, 3) := by decide +kernel
theorem dX6_act_81 : decode (mC M_X6_act) 81 = .ok (.goto 9, 3) := by decide +kernel
theorem dX6_act_84 : decode (mC M_X6_act) 84 = .ok (.aload_n 0, 1) := by decide +kernel
theorem dX6_act_85 : decode (mC M_X6_act) 85 = .ok (.iload_n 1, 1) := by decide +kernel
theorem dX6_act_86 : decode (mC M_X6_act) 86 = .ok (.iload_n 2, 1) := by decide +kernel
theorem dX6_act_87 : decode (mC M_X6_act) 87 = .ok (.invokevirtual 61, 3) := by decide +kernel
theorem dX6_act_90 : decode (mC M_X6_act) 90 = .ok (.return_, 1) := by decide +kernel
theorem dX6_meet_0 : decode (mC M_X6_meet) 0 = .ok (.aload_n 0, 1) := by decide +kernel
theorem dX6_meet_1 : decode (mC M_X6_meet) 1 = .ok (.getfield 18, 3) := by decide +kernel
theorem dX6_meet_4 : decode (mC M_X6_meet) 4 = .ok (.iload_n 1, 1) := by decide +kernel
theorem dX6_meet_5 : decode (mC M_X6_meet) 5 = .ok (.iaload, 1) := by decide +kernel
theorem dX6_meet_6 : decode (mC M_X6_meet) 6 = .ok (.iconst 1, 1) := by decide +kernel
theorem dX6_meet_7 : decode (mC M_X6_meet) 7 = .ok (.iadd, 1) := by decide +kernel
theorem dX6_meet_8 : decode (mC M_X6_meet) 8 = .ok (.iconst 2, 1) := by decide +kernel
theorem dX6_meet_9 : decode (mC M_X6_meet) 9 = .ok (.idiv, 1) := by decide +kernel
theorem dX6_meet_10 : decode (mC M_X6_meet) 10 = .ok (.istore_n 3, 1) := by decide +kernel
theorem dX6_meet_11 : decode (mC M_X6_meet) 11 = .ok (.aload_n 0, 1) := by decide +kernel
theorem dX6_meet_12 : decode (mC M_X6_meet) 12 = .ok (.getfield 15, 3) := by decide +kernel
theorem dX6_meet_15 : decode (mC M_X6_meet) 15 = .ok (.iload_n 2, 1) := by decide +kernel
theorem dX6_meet_16 : decode (mC M_X6_meet) 16 = .ok (.aload_n 0, 1) := by decide +kernel
theorem dX6_meet_17 : decode (mC M_X6_meet) 17 = .ok (.getfield 15, 3) := by decide +kernel
theorem dX6_meet_20 : decode (mC M_X6_meet) 20 = .ok (.iload_n 1, 1) := by decide +kernel
theorem dX6_meet_21 : decode (mC M_X6_meet) 21 = .ok (.iaload, 1) := by decide +kernel
theorem dX6_meet_22 : decode (mC M_X6_meet) 22 = .ok (.iastore, 1) := by decide +kernel
theorem dX6_meet_23 : decode (mC M_X6_meet) 23 = .ok (.aload_n 0, 1) := by decide +kernel
theorem dX6_meet_24 : decode (mC M_X6_meet) 24 = .ok (.getfield 18, 3) := by decide +kernel
theorem dX6_meet_27 : decode (mC M_X6_meet) 27 = .ok (.iload_n 1, 1) := by decide +kernel
theorem dX6_meet_28 : decode (mC M_X6_meet) 28 = .ok (.dup2, 1) := by decide +kernel
theorem dX6_meet_29 : decode (mC M_X6_meet) 29 = .ok (.iaload, 1) := by decide +kernel
theorem dX6_meet_30 : decode (mC M_X6_meet) 30 = .ok (.iload_n 3, 1) := by decide +kernel
theorem dX6_meet_31 : decode (mC M_X6_meet) 31 = .ok (.isub, 1) := by decide +kernel
theorem dX6_meet_32 : decode (mC M_X6_meet) 32 = .ok (.iastore, 1) := by decide +kernel
theorem dX6_meet_33 : decode (mC M_X6_meet) 33 = .ok (.aload_n 0, 1) := by decide +kernel
theorem dX6_meet_34 : decode (mC M_X6_meet) 34 = .ok (.getfield 18, 3) := by decide +kernel
theorem dX6_meet_37 : decode (mC M_X6_meet) 37 = .ok (.iload_n 2, 1) := by decide +kernel
theorem dX6_meet_38 : decode (mC M_X6_meet) 38 = .ok (.dup2, 1) := by decide +kernel
theorem dX6_meet_39 : decode (mC M_X6_meet) 39 = .ok (.iaload, 1) := by decide +kernel
theorem dX6_meet_40 : decode (mC M_X6_meet) 40 = .ok (.iload_n 3, 1) := by decide +kernel
theorem dX6_meet_41 : decode (mC M_X6_meet) 41 = .ok (.iadd, 1) := by decide +kernel
theorem dX6_meet_42 : decode (mC M_X6_meet) 42 = .ok (.iastore, 1) := by decide +kernel
theorem dX6_meet_43 : decode (mC M_X6_meet) 43 = .ok (.aload_n 0, 1) := by decide +kernel
theorem dX6_meet_44 : decode (mC M_X6_meet) 44 = .ok (.dup, 1) := by decide +kernel
theorem dX6_meet_45 : decode (mC M_X6_meet) 45 = .ok (.getfield 25, 3) := by decide +kernel
theorem dX6_meet_48 : decode (mC M_X6_meet) 48 = .ok (.iconst 1, 1) := by decide +kernel
theorem dX6_meet_49 : decode (mC M_X6_meet) 49 = .ok (.iadd, 1) := by decide +kernel
theorem dX6_meet_50 : decode (mC M_X6_meet) 50 = .ok (.putfield 25, 3) := by decide +kernel
theorem dX6_meet_53 : decode (mC M_X6_meet) 53 = .ok (.iload_n 1, 1) := by decide +kernel
theorem dX6_meet_54 : decode (mC M_X6_meet) 54 = .ok (.ifCond .ne 16, 3) := by decide +kernel
theorem dX6_meet_57 : decode (mC M_X6_meet) 57 = .ok (.aload_n 0, 1) := by decide +kernel
theorem dX6_meet_58 : decode (mC M_X6_meet) 58 = .ok (.getfield 29, 3) := by decide +kernel
theorem dX6_meet_61 : decode (mC M_X6_meet) 61 = .ok (.iconst (-1), 1) := by decide +kernel
theorem dX6_meet_62 : decode (mC M_X6_meet) 62 = .ok (.if_icmp .ne 8, 3) := by decide +kernel
theorem dX6_meet_65 : decode (mC M_X6_meet) 65 = .ok (.aload_n 0, 1) := by decide +kernel
theorem dX6_meet_66 : decode (mC M_X6_meet) 66 = .ok (.iload_n 2, 1) := by decide +kernel
theorem dX6_meet_67 : decode (mC M_X6_meet) 67 = .ok (.putfield 29, 3) := by decide +kernel
theorem dX6_meet_70 : decode (mC M_X6_meet) 70 = .ok (.return_, 1) := by decide +kernel
theorem dX6_roll_0 : decode (mC M_X6_roll) 0 = .ok (.aload_n 0, 1) := by decide +kernel
theorem dX6_roll_1 : decode (mC M_X6_roll) 1 = .ok (.getfield 9, 3) := by decide +kernel
theorem dX6_roll_4 : decode (mC M_X6_roll) 4 = .ok (.iload_n 1, 1) := by decide +kernel
theorem dX6_roll_5 : decode (mC M_X6_roll) 5 = .ok (.iaload, 1) := by decide +kernel
theorem dX6_roll_6 : decode (mC M_X6_roll) 6 = .ok (.istore_n 3, 1) := by decide +kernel
theorem dX6_roll_7 : decode (mC M_X6_roll) 7 = .ok (.aload_n 0, 1) := by decide +kernel
theorem dX6_roll_8 : decode (mC M_X6_roll) 8 = .ok (.getfield 18, 3) := by decide +kernel
theorem dX6_roll_11 : decode (mC M_X6_roll) 11 = .ok (.iload_n 1, 1) := by decide +kernel
theorem dX6_roll_12 : decode (mC M_X6_roll) 12 = .ok (.dup2, 1) := by decide +kernel
theorem dX6_roll_13 : decode (mC M_X6_roll) 13 = .ok (.iaload, 1) := by decide +kernel
theorem dX6_roll_14 : decode (mC M_X6_roll) 14 = .ok (.iconst 1, 1) := by decide +kernel
theorem dX6_roll_15 : decode (mC M_X6_roll) 15 = .ok (.isub, 1) := by decide +kernel
theorem dX6_roll_16 : decode (mC M_X6_roll) 16 = .ok (.iastore, 1) := by decide +kernel
theorem dX6_roll_17 : decode (mC M_X6_roll) 17 = .ok (.aload_n 0, 1) := by decide +kernel
theorem dX6_roll_18 : decode (mC M_X6_roll) 18 = .ok (.getfield 21, 3) := by decide +kernel
theorem dX6_roll_21 : decode (mC M_X6_roll) 21 = .ok (.iload_n 1, 1) := by decide +kernel
theorem dX6_roll_22 : decode (mC M_X6_roll) 22 = .ok (.iload_n 2, 1) := by decide +kernel
theorem dX6_roll_23 : decode (mC M_X6_roll) 23 = .ok (.invokestatic 64, 3) := by decide +kernel
theorem dX6_roll_26 : decode (mC M_X6_roll) 26 = .ok (.bastore, 1) := by decide +kernel
theorem dX6_roll_27 : decode (mC M_X6_roll) 27 = .ok (.aload_n 0, 1) := by decide +kernel
theorem dX6_roll_28 : decode (mC M_X6_roll) 28 = .ok (.getfield 9, 3) := by decide +kernel
theorem dX6_roll_31 : decode (mC M_X6_roll) 31 = .ok (.iload_n 1, 1) := by decide +kernel
theorem dX6_roll_32 : decode (mC M_X6_roll) 32 = .ok (.aload_n 0, 1) := by decide +kernel
theorem dX6_roll_33 : decode (mC M_X6_roll) 33 = .ok (.getfield 21, 3) := by decide +kernel
theorem dX6_roll_36 : decode (mC M_X6_roll) 36 = .ok (.iload_n 1, 1) := by decide +kernel
theorem dX6_roll_37 : decode (mC M_X6_roll) 37 = .ok (.baload, 1) := by decide +kernel
theorem dX6_roll_38 : decode (mC M_X6_roll) 38 = .ok (.ifCond .eq 7, 3) := by decide +kernel
theorem dX6_roll_41 : decode (mC M_X6_roll) 41 = .ok (.iconst (-1), 1) := by decide +kernel
theorem dX6_roll_42 : decode (mC M_X6_roll) 42 = .ok (.goto 4, 3) := by decide +kernel
theorem dX6_roll_45 : decode (mC M_X6_roll) 45 = .ok (.iload_n 2, 1) := by decide +kernel
theorem dX6_roll_46 : decode (mC M_X6_roll) 46 = .ok (.iastore, 1) := by decide +kernel
theorem dX6_roll_47 : decode (mC M_X6_roll) 47 = .ok (.aload_n 0, 1) := by decide +kernel
theorem dX6_roll_48 : decode (mC M_X6_roll) 48 = .ok (.iload_n 1, 1) := by decide +kernel
theorem dX6_roll_49 : decode (mC M_X6_roll) 49 = .ok (.iload_n 3, 1) := by decide +kernel
theorem dX6_roll_50 : decode (mC M_X6_roll) 50 = .ok (.aload_n 0, 1) := by decide +kernel
theorem dX6_roll_51 : decode (mC M_X6_roll) 51 = .ok (.getfield 9, 3) := by decide +kernel
theorem dX6_roll_54 : decode (mC M_X6_roll) 54 = .ok (.iload_n 1, 1) := by decide +kernel
theorem dX6_roll_55 : decode (mC M_X6_roll) 55 = .ok (.iaload, 1) := by decide +kernel
theorem dX6_roll_56 : decode (mC M_X6_roll) 56 = .ok (.invokevirtual 67, 3) := by decide +kernel
theorem dX6_roll_59 : decode (mC M_X6_roll) 59 = .ok (.return_, 1) := by decide +kernel
theorem dX7_init_0 : decode (mC M_X7_init) 0 = .ok (.aload_n 0, 1) := by decide +kernel
theorem dX7_init_1 : decode (mC M_X7_init) 1 = .ok (.invokespecial 3, 3) := by decide +kernel
theorem dX7_init_4 : decode (mC M_X7_init) 4 = .ok (.aload_n 0, 1) := by decide +kernel
theorem dX7_init_5 : decode (mC M_X7_init) 5 = .ok (.iconst (-1), 1) := by decide +kernel
theorem dX7_init_6 : decode (mC M_X7_init) 6 = .ok (.putfield 9, 3) := by decide +kernel
theorem dX7_init_9 : decode (mC M_X7_init) 9 = .ok (.aload_n 0, 1) := by decide +kernel
theorem dX7_init_10 : decode (mC M_X7_init) 10 = .ok (.iload_n 1, 1) := by decide +kernel
theorem dX7_init_11 : decode (mC M_X7_init) 11 = .ok (.putfield 15, 3) := by decide +kernel
theorem dX7_init_14 : decode (mC M_X7_init) 14 = .ok (.aload_n 0, 1) := by decide +kernel
theorem dX7_init_15 : decode (mC M_X7_init) 15 = .ok (.iload_n 2, 1) := by decide +kernel
theorem dX7_init_16 : decode (mC M_X7_init) 16 = .ok (.putfield 18, 3) := by decide +kernel
theorem dX7_init_19 : decode (mC M_X7_init) 19 = .ok (.return_, 1) := by decide +kernel
theorem dX7_close_0 : decode (mC M_X7_close) 0 = .ok (.aload_n 0, 1) := by decide +kernel
theorem dX7_close_1 : decode (mC M_X7_close) 1 = .ok (.iload_n 1, 1) := by decide +kernel
theorem dX7_close_2 : decode (mC M_X7_close) 2 = .ok (.putfield 9, 3) := by decide +kernel
theorem dX7_close_5 : decode (mC M_X7_close) 5 = .ok (.return_, 1) := by decide +kernel
theorem dX7_minutesWithin_0 : decode (mC M_X7_minutesWithin) 0 = .ok (.aload_n 0, 1) := by decide +kernel
theorem dX7_minutesWithin_1 : decode (mC M_X7_minutesWithin) 1 = .ok (.getfield 9, 3) := by decide +kernel
theorem dX7_minutesWithin_4 : decode (mC M_X7_minutesWithin) 4 = .ok (.iconst (-1), 1) := by decide +kernel
theorem dX7_minutesWithin_5 : decode (mC M_X7_minutesWithin) 5 = .ok (.if_icmp .ne 7, 3) := by decide +kernel
theorem dX7_minutesWithin_8 : decode (mC M_X7_minutesWithin) 8 = .ok (.iload_n 2, 1) := by decide +kernel
theorem dX7_minutesWithin_9 : decode (mC M_X7_minutesWithin) 9 = .ok (.goto 11, 3) := by decide +kernel
theorem dX7_minutesWithin_12 : decode (mC M_X7_minutesWithin) 12 = .ok (.aload_n 0, 1) := by decide +kernel
theorem dX7_minutesWithin_13 : decode (mC M_X7_minutesWithin) 13 = .ok (.getfield 9, 3) := by decide +kernel
theorem dX7_minutesWithin_16 : decode (mC M_X7_minutesWithin) 16 = .ok (.iload_n 2, 1) := by decide +kernel
theorem dX7_minutesWithin_17 : decode (mC M_X7_minutesWithin) 17 = .ok (.invokestatic 21, 3) := by decide +kernel
theorem dX7_minutesWithin_20 : decode (mC M_X7_minutesWithin) 20 = .ok (.istore_n 3, 1) := by decide +kernel
theorem dX7_minutesWithin_21 : decode (mC M_X7_minutesWithin) 21 = .ok (.iconst 0, 1) := by decide +kernel
theorem dX7_minutesWithin_22 : decode (mC M_X7_minutesWithin) 22 = .ok (.iload_n 3, 1) := by decide +kernel
theorem dX7_minutesWithin_23 : decode (mC M_X7_minutesWithin) 23 = .ok (.aload_n 0, 1) := by decide +kernel
theorem dX7_minutesWithin_24 : decode (mC M_X7_minutesWithin) 24 = .ok (.getfield 18, 3) := by decide +kernel
theorem dX7_minutesWithin_27 : decode (mC M_X7_minutesWithin) 27 = .ok (.iload_n 1, 1) := by decide +kernel
theorem dX7_minutesWithin_28 : decode (mC M_X7_minutesWithin) 28 = .ok (.invokestatic 27, 3) := by decide +kernel
theorem dX7_minutesWithin_31 : decode (mC M_X7_minutesWithin) 31 = .ok (.isub, 1) := by decide +kernel
theorem dX7_minutesWithin_32 : decode (mC M_X7_minutesWithin) 32 = .ok (.invokestatic 27, 3) := by decide +kernel
theorem dX7_minutesWithin_35 : decode (mC M_X7_minutesWithin) 35 = .ok (.ireturn, 1) := by decide +kernel
theorem dX8_init_0 : decode (mC M_X8_init) 0 = .ok (.aload_n 0, 1) := by decide +kernel
theorem dX8_init_1 : decode (mC M_X8_init) 1 = .ok (.invokespecial 1, 3) := by decide +kernel
theorem dX8_init_4 : decode (mC M_X8_init) 4 = .ok (.aload_n 0, 1) := by decide +kernel
theorem dX8_init_5 : decode (mC M_X8_init) 5 = .ok (.iconst 1, 1) := by decide +kernel
theorem dX8_init_6 : decode (mC M_X8_init) 6 = .ok (.putfield 7, 3) := by decide +kernel
theorem dX8_init_9 : decode (mC M_X8_init) 9 = .ok (.return_, 1) := by decide +kernel
theorem dX8_isRentedBy_0 : decode (mC M_X8_isRentedBy) 0 = .ok (.aload_n 0, 1) := by decide +kernel
theorem dX8_isRentedBy_1 : decode (mC M_X8_isRentedBy) 1 = .ok (.getfield 13, 3) := by decide +kernel
theorem dX8_isRentedBy_4 : decode (mC M_X8_isRentedBy) 4 = .ok (.ifnull 18, 3) := by decide +kernel
theorem dX8_isRentedBy_7 : decode (mC M_X8_isRentedBy) 7 = .ok (.aload_n 0, 1) := by decide +kernel
theorem dX8_isRentedBy_8 : decode (mC M_X8_isRentedBy) 8 = .ok (.getfield 13, 3) := by decide +kernel
theorem dX8_isRentedBy_11 : decode (mC M_X8_isRentedBy) 11 = .ok (.getfield 17, 3) := by decide +kernel
theorem dX8_isRentedBy_14 : decode (mC M_X8_isRentedBy) 14 = .ok (.iload_n 1, 1) := by decide +kernel
theorem dX8_isRentedBy_15 : decode (mC M_X8_isRentedBy) 15 = .ok (.if_icmp .ne 7, 3) := by decide +kernel
theorem dX8_isRentedBy_18 : decode (mC M_X8_isRentedBy) 18 = .ok (.iconst 1, 1) := by decide +kernel
theorem dX8_isRentedBy_19 : decode (mC M_X8_isRentedBy) 19 = .ok (.goto 4, 3) := by decide +kernel
theorem dX8_isRentedBy_22 : decode (mC M_X8_isRentedBy) 22 = .ok (.iconst 0, 1) := by decide +kernel
theorem dX8_isRentedBy_23 : decode (mC M_X8_isRentedBy) 23 = .ok (.ireturn, 1) := by decide +kernel
theorem dX8_isCounting_0 : decode (mC M_X8_isCounting) 0 = .ok (.aload_n 0, 1) := by decide +kernel
theorem dX8_isCounting_1 : decode (mC M_X8_isCounting) 1 = .ok (.getfield 13, 3) := by decide +kernel
theorem dX8_isCounting_4 : decode (mC M_X8_isCounting) 4 = .ok (.ifnull 24, 3) := by decide +kernel
theorem dX8_isCounting_7 : decode (mC M_X8_isCounting) 7 = .ok (.aload_n 0, 1) := by decide +kernel
theorem dX8_isCounting_8 : decode (mC M_X8_isCounting) 8 = .ok (.getfield 23, 3) := by decide +kernel
theorem dX8_isCounting_11 : decode (mC M_X8_isCounting) 11 = .ok (.ifnull 13, 3) := by decide +kernel
theorem dX8_isCounting_14 : decode (mC M_X8_isCounting) 14 = .ok (.aload_n 0, 1) := by decide +kernel
theorem dX8_isCounting_15 : decode (mC M_X8_isCounting) 15 = .ok (.getfield 23, 3) := by decide +kernel
theorem dX8_isCounting_18 : decode (mC M_X8_isCounting) 18 = .ok (.getfield 27, 3) := by decide +kernel
theorem dX8_isCounting_21 : decode (mC M_X8_isCounting) 21 = .ok (.ifCond .ne 7, 3) := by decide +kernel
theorem dX8_isCounting_24 : decode (mC M_X8_isCounting) 24 = .ok (.iconst 1, 1) := by decide +kernel
theorem dX8_isCounting_25 : decode (mC M_X8_isCounting) 25 = .ok (.goto 4, 3) := by decide +kernel
theorem dX8_isCounting_28 : decode (mC M_X8_isCounting) 28 = .ok (.iconst 0, 1) := by decide +kernel
theorem dX8_isCounting_29 : decode (mC M_X8_isCounting) 29 = .ok (.ireturn, 1) := by decide +kernel
theorem dX9_init_0 : decode (mC M_X9_init) 0 = .ok (.aload_n 0, 1) := by decide +kernel
theorem dX9_init_1 : decode (mC M_X9_init) 1 = .ok (.invokespecial 1, 3) := by decide +kernel
theorem dX9_init_4 : decode (mC M_X9_init) 4 = .ok (.aload_n 0, 1) := by decide +kernel
theorem dX9_init_5 : decode (mC M_X9_init) 5 = .ok (.iconst 4, 1) := by decide +kernel
theorem dX9_init_6 : decode (mC M_X9_init) 6 = .ok (.anewarray 9, 3) := by decide +kernel
theorem dX9_init_9 : decode (mC M_X9_init) 9 = .ok (.putfield 11, 3) := by decide +kernel
theorem dX9_init_12 : decode (mC M_X9_init) 12 = .ok (.aload_n 0, 1) := by decide +kernel
theorem dX9_init_13 : decode (mC M_X9_init) 13 = .ok (.bipush 6, 2) := by decide +kernel
theorem dX9_init_15 : decode (mC M_X9_init) 15 = .ok (.anewarray 15, 3) := by decide +kernel
theorem dX9_init_18 : decode (mC M_X9_init) 18 = .ok (.putfield 17, 3) := by decide +kernel
theorem dX9_init_21 : decode (mC M_X9_init) 21 = .ok (.aload_n 0, 1) := by decide +kernel
theorem dX9_init_22 : decode (mC M_X9_init) 22 = .ok (.bipush 20, 2) := by decide +kernel
theorem dX9_init_24 : decode (mC M_X9_init) 24 = .ok (.anewarray 21, 3) := by decide +kernel
theorem dX9_init_27 : decode (mC M_X9_init) 27 = .ok (.putfield 23, 3) := by decide +kernel
theorem dX9_init_30 : decode (mC M_X9_init) 30 = .ok (.aload_n 0, 1) := by decide +kernel
theorem dX9_init_31 : decode (mC M_X9_init) 31 = .ok (.sipush 512, 3) := by decide +kernel
theorem dX9_init_34 : decode (mC M_X9_init) 34 = .ok (.anewarray 27, 3) := by decide +kernel
theorem dX9_init_37 : decode (mC M_X9_init) 37 = .ok (.putfield 29, 3) := by decide +kernel
theorem dX9_init_40 : decode (mC M_X9_init) 40 = .ok (.aload_n 0, 1) := by decide +kernel
theorem dX9_init_41 : decode (mC M_X9_init) 41 = .ok (.sipush 512, 3) := by decide +kernel
theorem dX9_init_44 : decode (mC M_X9_init) 44 = .ok (.anewarray 33, 3) := by decide +kernel
theorem dX9_init_47 : decode (mC M_X9_init) 47 = .ok (.putfield 35, 3) := by decide +kernel
theorem dX9_init_50 : decode (mC M_X9_init) 50 = .ok (.aload_n 0, 1) := by decide +kernel
theorem dX9_init_51 : decode (mC M_X9_init) 51 = .ok (.sipush 512, 3) := by decide +kernel
theorem dX9_init_54 : decode (mC M_X9_init) 54 = .ok (.anewarray 39, 3) := by decide +kernel
theorem dX9_init_57 : decode (mC M_X9_init) 57 = .ok (.putfield 41, 3) := by decide +kernel
theorem dX9_init_60 : decode (mC M_X9_init) 60 = .ok (.aload_n 0, 1) := by decide +kernel
theorem dX9_init_61 : decode (mC M_X9_init) 61 = .ok (.bipush 8, 2) := by decide +kernel
theorem dX9_init_63 : decode (mC M_X9_init) 63 = .ok (.newarray .int, 2) := by decide +kernel
theorem dX9_init_65 : decode (mC M_X9_init) 65 = .ok (.putfield 45, 3) := by decide +kernel
theorem dX9_init_68 : decode (mC M_X9_init) 68 = .ok (.aload_n 0, 1) := by decide +kernel
theorem dX9_init_69 : decode (mC M_X9_init) 69 = .ok (.bipush 8, 2) := by decide +kernel
theorem dX9_init_71 : decode (mC M_X9_init) 71 = .ok (.newarray .int, 2) := by decide +kernel
theorem dX9_init_73 : decode (mC M_X9_init) 73 = .ok (.putfield 49, 3) := by decide +kernel
theorem dX9_init_76 : decode (mC M_X9_init) 76 = .ok (.aload_n 0, 1) := by decide +kernel
theorem dX9_init_77 : decode (mC M_X9_init) 77 = .ok (.new 52, 3) := by decide +kernel
theorem dX9_init_80 : decode (mC M_X9_init) 80 = .ok (.dup, 1) := by decide +kernel
theorem dX9_init_81 : decode (mC M_X9_init) 81 = .ok (.invokespecial 54, 3) := by decide +kernel
theorem dX9_init_84 : decode (mC M_X9_init) 84 = .ok (.putfield 55, 3) := by decide +kernel
theorem dX9_init_87 : decode (mC M_X9_init) 87 = .ok (.aload_n 0, 1) := by decide +kernel
theorem dX9_init_88 : decode (mC M_X9_init) 88 = .ok (.new 59, 3) := by decide +kernel
theorem dX9_init_91 : decode (mC M_X9_init) 91 = .ok (.dup, 1) := by decide +kernel
theorem dX9_init_92 : decode (mC M_X9_init) 92 = .ok (.invokespecial 61, 3) := by decide +kernel
theorem dX9_init_95 : decode (mC M_X9_init) 95 = .ok (.putfield 62, 3) := by decide +kernel
theorem dX9_init_98 : decode (mC M_X9_init) 98 = .ok (.aload_n 0, 1) := by decide +kernel
theorem dX9_init_99 : decode (mC M_X9_init) 99 = .ok (.bipush 6, 2) := by decide +kernel
theorem dX9_init_101 : decode (mC M_X9_init) 101 = .ok (.putfield 65, 3) := by decide +kernel
theorem dX9_init_104 : decode (mC M_X9_init) 104 = .ok (.iconst 0, 1) := by decide +kernel
theorem dX9_init_105 : decode (mC M_X9_init) 105 = .ok (.istore_n 1, 1) := by decide +kernel
theorem dX9_init_106 : decode (mC M_X9_init) 106 = .ok (.iload_n 1, 1) := by decide +kernel
theorem dX9_init_107 : decode (mC M_X9_init) 107 = .ok (.iconst 4, 1) := by decide +kernel
theorem dX9_init_108 : decode (mC M_X9_init) 108 = .ok (.if_icmp .ge 22, 3) := by decide +kernel
theorem dX9_init_111 : decode (mC M_X9_init) 111 = .ok (.aload_n 0, 1) := by decide +kernel
theorem dX9_init_112 : decode (mC M_X9_init) 112 = .ok (.getfield 11, 3) := by decide +kernel
theorem dX9_init_115 : decode (mC M_X9_init) 115 = .ok (.iload_n 1, 1) := by decide +kernel
theorem dX9_init_116 : decode (mC M_X9_init) 116 = .ok (.new 9, 3) := by decide +kernel
theorem dX9_init_119 : decode (mC M_X9_init) 119 = .ok (.dup, 1) := by decide +kernel
theorem dX9_init_120 : decode (mC M_X9_init) 120 = .ok (.invokespecial 69, 3) := by decide +kernel
theorem dX9_init_123 : decode (mC M_X9_init) 123 = .ok (.aastore, 1) := by decide +kernel
theorem dX9_init_124 : decode (mC M_X9_init) 124 = .ok (.iinc 1 1, 3) := by decide +kernel
theorem dX9_init_127 : decode (mC M_X9_init) 127 = .ok (.goto (-21), 3) := by decide +kernel
theorem dX9_init_130 : decode (mC M_X9_init) 130 = .ok (.iconst 0, 1) := by decide +kernel
theorem dX9_init_131 : decode (mC M_X9_init) 131 = .ok (.istore_n 1, 1) := by decide +kernel
theorem dX9_init_132 : decode (mC M_X9_init) 132 = .ok (.iload_n 1, 1) := by decide +kernel
theorem dX9_init_133 : decode (mC M_X9_init) 133 = .ok (.bipush 6, 2) := by decide +kernel
theorem dX9_init_135 : decode (mC M_X9_init) 135 = .ok (.if_icmp .ge 22, 3) := by decide +kernel
theorem dX9_init_138 : decode (mC M_X9_init) 138 = .ok (.aload_n 0, 1) := by decide +kernel
theorem dX9_init_139 : decode (mC M_X9_init) 139 = .ok (.getfield 17, 3) := by decide +kernel
theorem dX9_init_142 : decode (mC M_X9_init) 142 = .ok (.iload_n 1, 1) := by decide +kernel
theorem dX9_init_143 : decode (mC M_X9_init) 143 = .ok (.new 15, 3) := by decide +kernel
theorem dX9_init_146 : decode (mC M_X9_init) 146 = .ok (.dup, 1) := by decide +kernel
theorem dX9_init_147 : decode (mC M_X9_init) 147 = .ok (.invokespecial 70, 3) := by decide +kernel
theorem dX9_init_150 : decode (mC M_X9_init) 150 = .ok (.aastore, 1) := by decide +kernel
theorem dX9_init_151 : decode (mC M_X9_init) 151 = .ok (.iinc 1 1, 3) := by decide +kernel
theorem dX9_init_154 : decode (mC M_X9_init) 154 = .ok (.goto (-22), 3) := by decide +kernel
theorem dX9_init_157 : decode (mC M_X9_init) 157 = .ok (.return_, 1) := by decide +kernel
theorem dX9_setPrice_0 : decode (mC M_X9_setPrice) 0 = .ok (.iload_n 1, 1) := by decide +kernel
theorem dX9_setPrice_1 : decode (mC M_X9_setPrice) 1 = .ok (.iconst 0, 1) := by decide +kernel
theorem dX9_setPrice_2 : decode (mC M_X9_setPrice) 2 = .ok (.bipush 50, 2) := by decide +kernel
theorem dX9_setPrice_4 : decode (mC M_X9_setPrice) 4 = .ok (.invokestatic 71, 3) := by decide +kernel
theorem dX9_setPrice_7 : decode (mC M_X9_setPrice) 7 = .ok (.aload_n 0, 1) := by decide +kernel
theorem dX9_setPrice_8 : decode (mC M_X9_setPrice) 8 = .ok (.getfield 65, 3) := by decide +kernel
theorem dX9_setPrice_11 : decode (mC M_X9_setPrice) 11 = .ok (.istore_n 2, 1) := by decide +kernel
theorem dX9_setPrice_12 : decode (mC M_X9_setPrice) 12 = .ok (.aload_n 0, 1) := by decide +kernel
theorem dX9_setPrice_13 : decode (mC M_X9_setPrice) 13 = .ok (.iload_n 1, 1) := by decide +kernel
theorem dX9_setPrice_14 : decode (mC M_X9_setPrice) 14 = .ok (.putfield 65, 3) := by decide +kernel
theorem dX9_setPrice_17 : decode (mC M_X9_setPrice) 17 = .ok (.iload_n 2, 1) := by decide +kernel
theorem dX9_setPrice_18 : decode (mC M_X9_setPrice) 18 = .ok (.ireturn, 1) := by decide +kernel
theorem dX9_rent_0 : decode (mC M_X9_rent) 0 = .ok (.aload_n 0, 1) := by decide +kernel
theorem dX9_rent_1 : decode (mC M_X9_rent) 1 = .ok (.iload_n 1, 1) := by decide +kernel
theorem dX9_rent_2 : decode (mC M_X9_rent) 2 = .ok (.invokevirtual 75, 3) := by decide +kernel
theorem dX9_rent_5 : decode (mC M_X9_rent) 5 = .ok (.astore_n 3, 1) := by decide +kernel
theorem dX9_rent_6 : decode (mC M_X9_rent) 6 = .ok (.iload_n 2, 1) := by decide +kernel
theorem dX9_rent_7 : decode (mC M_X9_rent) 7 = .ok (.invokestatic 79, 3) := by decide +kernel
theorem dX9_rent_10 : decode (mC M_X9_rent) 10 = .ok (.aload_n 3, 1) := by decide +kernel
theorem dX9_rent_11 : decode (mC M_X9_rent) 11 = .ok (.getfield 83, 3) := by decide +kernel
theorem dX9_rent_14 : decode (mC M_X9_rent) 14 = .ok (.ifCond .eq 18, 3) := by decide +kernel
theorem dX9_rent_17 : decode (mC M_X9_rent) 17 = .ok (.aload_n 3, 1) := by decide +kernel
theorem dX9_rent_18 : decode (mC M_X9_rent) 18 = .ok (.getfield 87, 3) := by decide +kernel
theorem dX9_rent_21 : decode (mC M_X9_rent) 21 = .ok (.ifnonnull 11, 3) := by decide +kernel
theorem dX9_rent_24 : decode (mC M_X9_rent) 24 = .ok (.aload_n 0, 1) := by decide +kernel
theorem dX9_rent_25 : decode (mC M_X9_rent) 25 = .ok (.iload_n 2, 1) := by decide +kernel
theorem dX9_rent_26 : decode (mC M_X9_rent) 26 = .ok (.invokevirtual 91, 3) := by decide +kernel
theorem dX9_rent_29 : decode (mC M_X9_rent) 29 = .ok (.ifCond .eq 13, 3) := by decide +kernel
theorem dX9_rent_32 : decode (mC M_X9_rent) 32 = .ok (.new 95, 3) := by decide +kernel
theorem dX9_rent_35 : decode (mC M_X9_rent) 35 = .ok (.dup, 1) := by decide +kernel
theorem dX9_rent_36 : decode (mC M_X9_rent) 36 = .ok (.ldc 97, 2) := by decide +kernel
theorem dX9_rent_38 : decode (mC M_X9_rent) 38 = .ok (.invokespecial 99, 3) := by decide +kernel
theorem dX9_rent_41 : decode (mC M_X9_rent) 41 = .ok (.athrow, 1) := by decide +kernel
theorem dX9_rent_42 : decode (mC M_X9_rent) 42 = .ok (.new 27, 3) := by decide +kernel
theorem dX9_rent_45 : decode (mC M_X9_rent) 45 = .ok (.dup, 1) := by decide +kernel
theorem dX9_rent_46 : decode (mC M_X9_rent) 46 = .ok (.iload_n 1, 1) := by decide +kernel
theorem dX9_rent_47 : decode (mC M_X9_rent) 47 = .ok (.iload_n 2, 1) := by decide +kernel
theorem dX9_rent_48 : decode (mC M_X9_rent) 48 = .ok (.aload_n 0, 1) := by decide +kernel
theorem dX9_rent_49 : decode (mC M_X9_rent) 49 = .ok (.getfield 102, 3) := by decide +kernel
theorem dX9_rent_52 : decode (mC M_X9_rent) 52 = .ok (.invokespecial 105, 3) := by decide +kernel
theorem dX9_rent_55 : decode (mC M_X9_rent) 55 = .ok (.astore 4, 2) := by decide +kernel
theorem dX9_rent_57 : decode (mC M_X9_rent) 57 = .ok (.aload_n 3, 1) := by decide +kernel
theorem dX9_rent_58 : decode (mC M_X9_rent) 58 = .ok (.aload 4, 2) := by decide +kernel
theorem dX9_rent_60 : decode (mC M_X9_rent) 60 = .ok (.putfield 87, 3) := by decide +kernel
theorem dX9_rent_63 : decode (mC M_X9_rent) 63 = .ok (.aload_n 3, 1) := by decide +kernel
theorem dX9_rent_64 : decode (mC M_X9_rent) 64 = .ok (.iconst 0, 1) := by decide +kernel
theorem dX9_rent_65 : decode (mC M_X9_rent) 65 = .ok (.putfield 107, 3) := by decide +kernel
theorem dX9_rent_68 : decode (mC M_X9_rent) 68 = .ok (.aload_n 0, 1) := by decide +kernel
theorem dX9_rent_69 : decode (mC M_X9_rent) 69 = .ok (.getfield 110, 3) := by decide +kernel
theorem dX9_rent_72 : decode (mC M_X9_rent) 72 = .ok (.aload_n 0, 1) := by decide +kernel
theorem dX9_rent_73 : decode (mC M_X9_rent) 73 = .ok (.getfield 29, 3) := by decide +kernel
theorem dX9_rent_76 : decode (mC M_X9_rent) 76 = .ok (.arraylength, 1) := by decide +kernel
theorem dX9_rent_77 : decode (mC M_X9_rent) 77 = .ok (.if_icmp .ge 24, 3) := by decide +kernel
theorem dX9_rent_80 : decode (mC M_X9_rent) 80 = .ok (.aload_n 0, 1) := by decide +kernel
theorem dX9_rent_81 : decode (mC M_X9_rent) 81 = .ok (.getfield 29, 3) := by decide +kernel
theorem dX9_rent_84 : decode (mC M_X9_rent) 84 = .ok (.aload_n 0, 1) := by decide +kernel
theorem dX9_rent_85 : decode (mC M_X9_rent) 85 = .ok (.getfield 110, 3) := by decide +kernel
theorem dX9_rent_88 : decode (mC M_X9_rent) 88 = .ok (.aload 4, 2) := by decide +kernel
theorem dX9_rent_90 : decode (mC M_X9_rent) 90 = .ok (.aastore, 1) := by decide +kernel
theorem dX9_rent_91 : decode (mC M_X9_rent) 91 = .ok (.aload_n 0, 1) := by decide +kernel
theorem dX9_rent_92 : decode (mC M_X9_rent) 92 = .ok (.dup, 1) := by decide +kernel
theorem dX9_rent_93 : decode (mC M_X9_rent) 93 = .ok (.getfield 110, 3) := by decide +kernel
theorem dX9_rent_96 : decode (mC M_X9_rent) 96 = .ok (.iconst 1, 1) := by decide +kernel
theorem dX9_rent_97 : decode (mC M_X9_rent) 97 = .ok (.iadd, 1) := by decide +kernel
theorem dX9_rent_98 : decode (mC M_X9_rent) 98 = .ok (.putfield 110, 3) := by decide +kernel
theorem dX9_rent_101 : decode (mC M_X9_rent) 101 = .ok (.aload_n 0, 1) := by decide +kernel
theorem dX9_rent_102 : decode (mC M_X9_rent) 102 = .ok (.invokevirtual 113, 3) := by decide +kernel
theorem dX9_rent_105 : decode (mC M_X9_rent) 105 = .ok (.ireturn, 1) := by decide +kernel
theorem dX9_end_0 : decode (mC M_X9_end) 0 = .ok (.aload_n 0, 1) := by decide +kernel
theorem dX9_end_1 : decode (mC M_X9_end) 1 = .ok (.iload_n 1, 1) := by decide +kernel
theorem dX9_end_2 : decode (mC M_X9_end) 2 = .ok (.invokevirtual 75, 3) := by decide +kernel
theorem dX9_end_5 : decode (mC M_X9_end) 5 = .ok (.astore_n 2, 1) := by decide +kernel
theorem dX9_end_6 : decode (mC M_X9_end) 6 = .ok (.aload_n 2, 1) := by decide +kernel
theorem dX9_end_7 : decode (mC M_X9_end) 7 = .ok (.getfield 87, 3) := by decide +kernel
theorem dX9_end_10 : decode (mC M_X9_end) 10 = .ok (.ifnonnull 13, 3) := by decide +kernel
theorem dX9_end_13 : decode (mC M_X9_end) 13 = .ok (.new 95, 3) := by decide +kernel
theorem dX9_end_16 : decode (mC M_X9_end) 16 = .ok (.dup, 1) := by decide +kernel
theorem dX9_end_17 : decode (mC M_X9_end) 17 = .ok (.ldc 117, 2) := by decide +kernel
theorem dX9_end_19 : decode (mC M_X9_end) 19 = .ok (.invokespecial 99, 3) := by decide +kernel
theorem dX9_end_22 : decode (mC M_X9_end) 22 = .ok (.athrow, 1) := by decide +kernel
theorem dX9_end_23 : decode (mC M_X9_end) 23 = .ok (.aload_n 0, 1) := by decide +kernel
theorem dX9_end_24 : decode (mC M_X9_end) 24 = .ok (.aload_n 2, 1) := by decide +kernel
theorem dX9_end_25 : decode (mC M_X9_end) 25 = .ok (.invokevirtual 119, 3) := by decide +kernel
theorem dX9_end_28 : decode (mC M_X9_end) 28 = .ok (.ireturn, 1) := by decide +kernel
theorem dX9_tear_0 : decode (mC M_X9_tear) 0 = .ok (.aload_n 0, 1) := by decide +kernel
theorem dX9_tear_1 : decode (mC M_X9_tear) 1 = .ok (.iload_n 1, 1) := by decide +kernel
theorem dX9_tear_2 : decode (mC M_X9_tear) 2 = .ok (.invokevirtual 75, 3) := by decide +kernel
theorem dX9_tear_5 : decode (mC M_X9_tear) 5 = .ok (.astore_n 2, 1) := by decide +kernel
theorem dX9_tear_6 : decode (mC M_X9_tear) 6 = .ok (.aload_n 2, 1) := by decide +kernel
theorem dX9_tear_7 : decode (mC M_X9_tear) 7 = .ok (.getfield 83, 3) := by decide +kernel
theorem dX9_tear_10 : decode (mC M_X9_tear) 10 = .ok (.ifCond .ne 13, 3) := by decide +kernel
theorem dX9_tear_13 : decode (mC M_X9_tear) 13 = .ok (.new 95, 3) := by decide +kernel
theorem dX9_tear_16 : decode (mC M_X9_tear) 16 = .ok (.dup, 1) := by decide +kernel
theorem dX9_tear_17 : decode (mC M_X9_tear) 17 = .ok (.ldc 123, 2) := by decide +kernel
theorem dX9_tear_19 : decode (mC M_X9_tear) 19 = .ok (.invokespecial 99, 3) := by decide +kernel
theorem dX9_tear_22 : decode (mC M_X9_tear) 22 = .ok (.athrow, 1) := by decide +kernel
theorem dX9_tear_23 : decode (mC M_X9_tear) 23 = .ok (.aload_n 0, 1) := by decide +kernel
theorem dX9_tear_24 : decode (mC M_X9_tear) 24 = .ok (.aload_n 2, 1) := by decide +kernel
theorem dX9_tear_25 : decode (mC M_X9_tear) 25 = .ok (.invokevirtual 119, 3) := by decide +kernel
theorem dX9_tear_28 : decode (mC M_X9_tear) 28 = .ok (.istore_n 3, 1) := by decide +kernel
theorem dX9_tear_29 : decode (mC M_X9_tear) 29 = .ok (.aload_n 0, 1) := by decide +kernel
theorem dX9_tear_30 : decode (mC M_X9_tear) 30 = .ok (.aload_n 2, 1) := by decide +kernel
theorem dX9_tear_31 : decode (mC M_X9_tear) 31 = .ok (.invokevirtual 125, 3) := by decide +kernel
theorem dX9_tear_34 : decode (mC M_X9_tear) 34 = .ok (.aload_n 2, 1) := by decide +kernel
theorem dX9_tear_35 : decode (mC M_X9_tear) 35 = .ok (.iconst 0, 1) := by decide +kernel
theorem dX9_tear_36 : decode (mC M_X9_tear) 36 = .ok (.putfield 83, 3) := by decide +kernel
theorem dX9_tear_39 : decode (mC M_X9_tear) 39 = .ok (.iload_n 3, 1) := by decide +kernel
theorem dX9_tear_40 : decode (mC M_X9_tear) 40 = .ok (.ireturn, 1) := by decide +kernel
theorem dX9_mend_0 : decode (mC M_X9_mend) 0 = .ok (.aload_n 0, 1) := by decide +kernel
theorem dX9_mend_1 : decode (mC M_X9_mend) 1 = .ok (.iload_n 1, 1) := by decide +kernel
theorem dX9_mend_2 : decode (mC M_X9_mend) 2 = .ok (.invokevirtual 75, 3) := by decide +kernel
theorem dX9_mend_5 : decode (mC M_X9_mend) 5 = .ok (.astore_n 2, 1) := by decide +kernel
theorem dX9_mend_6 : decode (mC M_X9_mend) 6 = .ok (.aload_n 2, 1) := by decide +kernel
theorem dX9_mend_7 : decode (mC M_X9_mend) 7 = .ok (.getfield 83, 3) := by decide +kernel
theorem dX9_mend_10 : decode (mC M_X9_mend) 10 = .ok (.ifCond .eq 13, 3) := by decide +kernel
theorem dX9_mend_13 : decode (mC M_X9_mend) 13 = .ok (.new 95, 3) := by decide +kernel
theorem dX9_mend_16 : decode (mC M_X9_mend) 16 = .ok (.dup, 1) := by decide +kernel
theorem dX9_mend_17 : decode (mC M_X9_mend) 17 = .ok (.ldc 129, 2) := by decide +kernel
theorem dX9_mend_19 : decode (mC M_X9_mend) 19 = .ok (.invokespecial 99, 3) := by decide +kernel
theorem dX9_mend_22 : decode (mC M_X9_mend) 22 = .ok (.athrow, 1) := by decide +kernel
theorem dX9_mend_23 : decode (mC M_X9_mend) 23 = .ok (.aload_n 2, 1) := by decide +kernel
theorem dX9_mend_24 : decode (mC M_X9_mend) 24 = .ok (.iconst 1, 1) := by decide +kernel
theorem dX9_mend_25 : decode (mC M_X9_mend) 25 = .ok (.putfield 83, 3) := by decide +kernel
theorem dX9_mend_28 : decode (mC M_X9_mend) 28 = .ok (.aload_n 0, 1) := by decide +kernel
theorem dX9_mend_29 : decode (mC M_X9_mend) 29 = .ok (.invokevirtual 131, 3) := by decide +kernel
theorem dX9_mend_32 : decode (mC M_X9_mend) 32 = .ok (.ireturn, 1) := by decide +kernel
theorem dX9_pass_0 : decode (mC M_X9_pass) 0 = .ok (.iload_n 1, 1) := by decide +kernel
theorem dX9_pass_1 : decode (mC M_X9_pass) 1 = .ok (.iconst 1, 1) := by decide +kernel
theorem dX9_pass_2 : decode (mC M_X9_pass) 2 = .ok (.sipush 200, 3) := by decide +kernel
theorem dX9_pass_5 : decode (mC M_X9_pass) 5 = .ok (.invokestatic 71, 3) := by decide +kernel
theorem dX9_pass_8 : decode (mC M_X9_pass) 8 = .ok (.aload_n 0, 1) := by decide +kernel
theorem dX9_pass_9 : decode (mC M_X9_pass) 9 = .ok (.getfield 102, 3) := by decide +kernel
theorem dX9_pass_12 : decode (mC M_X9_pass) 12 = .ok (.iload_n 1, 1) := by decide +kernel
theorem dX9_pass_13 : decode (mC M_X9_pass) 13 = .ok (.iadd, 1) := by decide +kernel
theorem dX9_pass_14 : decode (mC M_X9_pass) 14 = .ok (.sipush 10000, 3) := by decide +kernel
theorem dX9_pass_17 : decode (mC M_X9_pass) 17 = .ok (.if_icmp .le 13, 3) := by decide +kernel
theorem dX9_pass_20 : decode (mC M_X9_pass) 20 = .ok (.new 95, 3) := by decide +kernel
theorem dX9_pass_23 : decode (mC M_X9_pass) 23 = .ok (.dup, 1) := by decide +kernel
theorem dX9_pass_24 : decode (mC M_X9_pass) 24 = .ok (.ldc 134, 2) := by decide +kernel
theorem dX9_pass_26 : decode (mC M_X9_pass) 26 = .ok (.invokespecial 99, 3) := by decide +kernel
theorem dX9_pass_29 : decode (mC M_X9_pass) 29 = .ok (.athrow, 1) := by decide +kernel
theorem dX9_pass_30 : decode (mC M_X9_pass) 30 = .ok (.aload_n 0, 1) := by decide +kernel
theorem dX9_pass_31 : decode (mC M_X9_pass) 31 = .ok (.dup, 1) := by decide +kernel
theorem dX9_pass_32 : decode (mC M_X9_pass) 32 = .ok (.getfield 102, 3) := by decide +kernel
theorem dX9_pass_35 : decode (mC M_X9_pass) 35 = .ok (.iload_n 1, 1) := by decide +kernel
theorem dX9_pass_36 : decode (mC M_X9_pass) 36 = .ok (.iadd, 1) := by decide +kernel
theorem dX9_pass_37 : decode (mC M_X9_pass) 37 = .ok (.putfield 102, 3) := by decide +kernel
theorem dX9_pass_40 : decode (mC M_X9_pass) 40 = .ok (.iconst 0, 1) := by decide +kernel
theorem dX9_pass_41 : decode (mC M_X9_pass) 41 = .ok (.istore_n 2, 1) := by decide +kernel
theorem dX9_pass_42 : decode (mC M_X9_pass) 42 = .ok (.aload_n 0, 1) := by decide +kernel
theorem dX9_pass_43 : decode (mC M_X9_pass) 43 = .ok (.getfield 11, 3) := by decide +kernel
theorem dX9_pass_46 : decode (mC M_X9_pass) 46 = .ok (.astore_n 3, 1) := by decide +kernel
theorem dX9_pass_47 : decode (mC M_X9_pass) 47 = .ok (.aload_n 3, 1) := by decide +kernel
theorem dX9_pass_48 : decode (mC M_X9_pass) 48 = .ok (.arraylength, 1) := by decide +kernel
theorem dX9_pass_49 : decode (mC M_X9_pass) 49 = .ok (.istore 4, 2) := by decide +kernel
theorem dX9_pass_51 : decode (mC M_X9_pass) 51 = .ok (.iconst 0, 1) := by decide +kernel
theorem dX9_pass_52 : decode (mC M_X9_pass) 52 = .ok (.istore 5, 2) := by decide +kernel
theorem dX9_pass_54 : decode (mC M_X9_pass) 54 = .ok (.iload 5, 2) := by decide +kernel
theorem dX9_pass_56 : decode (mC M_X9_pass) 56 = .ok (.iload 4, 2) := by decide +kernel
theorem dX9_pass_58 : decode (mC M_X9_pass) 58 = .ok (.if_icmp .ge 43, 3) := by decide +kernel
theorem dX9_pass_61 : decode (mC M_X9_pass) 61 = .ok (.aload_n 3, 1) := by decide +kernel
theorem dX9_pass_62 : decode (mC M_X9_pass) 62 = .ok (.iload 5, 2) := by decide +kernel
theorem dX9_pass_64 : decode (mC M_X9_pass) 64 = .ok (.aaload, 1) := by decide +kernel
theorem dX9_pass_65 : decode (mC M_X9_pass) 65 = .ok (.astore 6, 2) := by decide +kernel
theorem dX9_pass_67 : decode (mC M_X9_pass) 67 = .ok (.aload 6, 2) := by decide +kernel
theorem dX9_pass_69 : decode (mC M_X9_pass) 69 = .ok (.ifnull 26, 3) := by decide +kernel
theorem dX9_pass_72 : decode (mC M_X9_pass) 72 = .ok (.aload 6, 2) := by decide +kernel
theorem dX9_pass_74 : decode (mC M_X9_pass) 74 = .ok (.invokevirtual 136, 3) := by decide +kernel
theorem dX9_pass_77 : decode (mC M_X9_pass) 77 = .ok (.ifCond .eq 18, 3) := by decide +kernel
theorem dX9_pass_80 : decode (mC M_X9_pass) 80 = .ok (.aload 6, 2) := by decide +kernel
theorem dX9_pass_82 : decode (mC M_X9_pass) 82 = .ok (.dup, 1) := by decide +kernel
theorem dX9_pass_83 : decode (mC M_X9_pass) 83 = .ok (.getfield 107, 3) := by decide +kernel
theorem dX9_pass_86 : decode (mC M_X9_pass) 86 = .ok (.iload_n 1, 1) := by decide +kernel
theorem dX9_pass_87 : decode (mC M_X9_pass) 87 = .ok (.iadd, 1) := by decide +kernel
theorem dX9_pass_88 : decode (mC M_X9_pass) 88 = .ok (.putfield 107, 3) := by decide +kernel
theorem dX9_pass_91 : decode (mC M_X9_pass) 91 = .ok (.iload_n 2, 1) := by decide +kernel
theorem dX9_pass_92 : decode (mC M_X9_pass) 92 = .ok (.iload_n 1, 1) := by decide +kernel
theorem dX9_pass_93 : decode (mC M_X9_pass) 93 = .ok (.iadd, 1) := by decide +kernel
theorem dX9_pass_94 : decode (mC M_X9_pass) 94 = .ok (.istore_n 2, 1) := by decide +kernel
theorem dX9_pass_95 : decode (mC M_X9_pass) 95 = .ok (.iinc 5 1, 3) := by decide +kernel
theorem dX9_pass_98 : decode (mC M_X9_pass) 98 = .ok (.goto (-44), 3) := by decide +kernel
theorem dX9_pass_101 : decode (mC M_X9_pass) 101 = .ok (.iload_n 2, 1) := by decide +kernel
theorem dX9_pass_102 : decode (mC M_X9_pass) 102 = .ok (.ireturn, 1) := by decide +kernel
theorem dX9_begin_0 : decode (mC M_X9_begin) 0 = .ok (.aload_n 0, 1) := by decide +kernel
theorem dX9_begin_1 : decode (mC M_X9_begin) 1 = .ok (.iload_n 1, 1) := by decide +kernel
theorem dX9_begin_2 : decode (mC M_X9_begin) 2 = .ok (.invokevirtual 75, 3) := by decide +kernel
theorem dX9_begin_5 : decode (mC M_X9_begin) 5 = .ok (.astore 5, 2) := by decide +kernel
theorem dX9_begin_7 : decode (mC M_X9_begin) 7 = .ok (.iload_n 2, 1) := by decide +kernel
theorem dX9_begin_8 : decode (mC M_X9_begin) 8 = .ok (.invokestatic 79, 3) := by decide +kernel
theorem dX9_begin_11 : decode (mC M_X9_begin) 11 = .ok (.iload_n 3, 1) := by decide +kernel
theorem dX9_begin_12 : decode (mC M_X9_begin) 12 = .ok (.invokestatic 79, 3) := by decide +kernel
theorem dX9_begin_15 : decode (mC M_X9_begin) 15 = .ok (.iload_n 2, 1) := by decide +kernel
theorem dX9_begin_16 : decode (mC M_X9_begin) 16 = .ok (.iload_n 3, 1) := by decide +kernel
theorem dX9_begin_17 : decode (mC M_X9_begin) 17 = .ok (.if_icmp .ne 13, 3) := by decide +kernel
theorem dX9_begin_20 : decode (mC M_X9_begin) 20 = .ok (.new 140, 3) := by decide +kernel
theorem dX9_begin_23 : decode (mC M_X9_begin) 23 = .ok (.dup, 1) := by decide +kernel
theorem dX9_begin_24 : decode (mC M_X9_begin) 24 = .ok (.ldc 142, 2) := by decide +kernel
theorem dX9_begin_26 : decode (mC M_X9_begin) 26 = .ok (.invokespecial 144, 3) := by decide +kernel
theorem dX9_begin_29 : decode (mC M_X9_begin) 29 = .ok (.athrow, 1) := by decide +kernel
theorem dX9_begin_30 : decode (mC M_X9_begin) 30 = .ok (.aload_n 0, 1) := by decide +kernel
theorem dX9_begin_31 : decode (mC M_X9_begin) 31 = .ok (.getfield 145, 3) := by decide +kernel
theorem dX9_begin_34 : decode (mC M_X9_begin) 34 = .ok (.aload_n 0, 1) := by decide +kernel
theorem dX9_begin_35 : decode (mC M_X9_begin) 35 = .ok (.getfield 23, 3) := by decide +kernel
theorem dX9_begin_38 : decode (mC M_X9_begin) 38 = .ok (.arraylength, 1) := by decide +kernel
theorem dX9_begin_39 : decode (mC M_X9_begin) 39 = .ok (.if_icmp .lt 13, 3) := by decide +kernel
theorem dX9_begin_42 : decode (mC M_X9_begin) 42 = .ok (.new 95, 3) := by decide +kernel
theorem dX9_begin_45 : decode (mC M_X9_begin) 45 = .ok (.dup, 1) := by decide +kernel
theorem dX9_begin_46 : decode (mC M_X9_begin) 46 = .ok (.ldc 148, 2) := by decide +kernel
theorem dX9_begin_48 : decode (mC M_X9_begin) 48 = .ok (.invokespecial 99, 3) := by decide +kernel
theorem dX9_begin_51 : decode (mC M_X9_begin) 51 = .ok (.athrow, 1) := by decide +kernel
theorem dX9_begin_52 : decode (mC M_X9_begin) 52 = .ok (.aload 5, 2) := by decide +kernel
theorem dX9_begin_54 : decode (mC M_X9_begin) 54 = .ok (.iload 4, 2) := by decide +kernel
theorem dX9_begin_56 : decode (mC M_X9_begin) 56 = .ok (.iload_n 2, 1) := by decide +kernel
theorem dX9_begin_57 : decode (mC M_X9_begin) 57 = .ok (.iload_n 3, 1) := by decide +kernel
theorem dX9_begin_58 : decode (mC M_X9_begin) 58 = .ok (.invokestatic 150, 3) := by decide +kernel
theorem dX9_begin_61 : decode (mC M_X9_begin) 61 = .ok (.new 21, 3) := by decide +kernel
theorem dX9_begin_64 : decode (mC M_X9_begin) 64 = .ok (.dup, 1) := by decide +kernel
theorem dX9_begin_65 : decode (mC M_X9_begin) 65 = .ok (.aload_n 0, 1) := by decide +kernel
theorem dX9_begin_66 : decode (mC M_X9_begin) 66 = .ok (.getfield 145, 3) := by decide +kernel
theorem dX9_begin_69 : decode (mC M_X9_begin) 69 = .ok (.iload_n 2, 1) := by decide +kernel
theorem dX9_begin_70 : decode (mC M_X9_begin) 70 = .ok (.iload_n 3, 1) := by decide +kernel
theorem dX9_begin_71 : decode (mC M_X9_begin) 71 = .ok (.iload 4, 2) := by decide +kernel
theorem dX9_begin_73 : decode (mC M_X9_begin) 73 = .ok (.invokespecial 154, 3) := by decide +kernel
theorem dX9_begin_76 : decode (mC M_X9_begin) 76 = .ok (.astore 6, 2) := by decide +kernel
theorem dX9_begin_78 : decode (mC M_X9_begin) 78 = .ok (.aload_n 0, 1) := by decide +kernel
theorem dX9_begin_79 : decode (mC M_X9_begin) 79 = .ok (.getfield 23, 3) := by decide +kernel
theorem dX9_begin_82 : decode (mC M_X9_begin) 82 = .ok (.aload_n 0, 1) := by decide +kernel
theorem dX9_begin_83 : decode (mC M_X9_begin) 83 = .ok (.getfield 145, 3) := by decide +kernel
theorem dX9_begin_86 : decode (mC M_X9_begin) 86 = .ok (.aload 6, 2) := by decide +kernel
theorem dX9_begin_88 : decode (mC M_X9_begin) 88 = .ok (.aastore, 1) := by decide +kernel
theorem dX9_begin_89 : decode (mC M_X9_begin) 89 = .ok (.aload_n 0, 1) := by decide +kernel
theorem dX9_begin_90 : decode (mC M_X9_begin) 90 = .ok (.dup, 1) := by decide +kernel
theorem dX9_begin_91 : decode (mC M_X9_begin) 91 = .ok (.getfield 145, 3) := by decide +kernel
theorem dX9_begin_94 : decode (mC M_X9_begin) 94 = .ok (.iconst 1, 1) := by decide +kernel
theorem dX9_begin_95 : decode (mC M_X9_begin) 95 = .ok (.iadd, 1) := by decide +kernel
theorem dX9_begin_96 : decode (mC M_X9_begin) 96 = .ok (.putfield 145, 3) := by decide +kernel
theorem dX9_begin_99 : decode (mC M_X9_begin) 99 = .ok (.aload_n 0, 1) := by decide +kernel
theorem dX9_begin_100 : decode (mC M_X9_begin) 100 = .ok (.aload 6, 2) := by decide +kernel
theorem dX9_begin_102 : decode (mC M_X9_begin) 102 = .ok (.aload 5, 2) := by decide +kernel
theorem dX9_begin_104 : decode (mC M_X9_begin) 104 = .ok (.iload_n 1, 1) := by decide +kernel
theorem dX9_begin_105 : decode (mC M_X9_begin) 105 = .ok (.invokevirtual 157, 3) := by decide +kernel
theorem dX9_begin_108 : decode (mC M_X9_begin) 108 = .ok (.aload 6, 2) := by decide +kernel
theorem dX9_begin_110 : decode (mC M_X9_begin) 110 = .ok (.getfield 161, 3) := by decide +kernel
theorem dX9_begin_113 : decode (mC M_X9_begin) 113 = .ok (.ireturn, 1) := by decide +kernel
theorem dX9_resume_0 : decode (mC M_X9_resume) 0 = .ok (.aload_n 0, 1) := by decide +kernel
theorem dX9_resume_1 : decode (mC M_X9_resume) 1 = .ok (.iload_n 1, 1) := by decide +kernel
theorem dX9_resume_2 : decode (mC M_X9_resume) 2 = .ok (.invokevirtual 164, 3) := by decide +kernel
theorem dX9_resume_5 : decode (mC M_X9_resume) 5 = .ok (.astore_n 3, 1) := by decide +kernel
theorem dX9_resume_6 : decode (mC M_X9_resume) 6 = .ok (.aload_n 0, 1) := by decide +kernel
theorem dX9_resume_7 : decode (mC M_X9_resume) 7 = .ok (.iload_n 2, 1) := by decide +kernel
theorem dX9_resume_8 : decode (mC M_X9_resume) 8 = .ok (.invokevirtual 75, 3) := by decide +kernel
theorem dX9_resume_11 : decode (mC M_X9_resume) 11 = .ok (.astore 4, 2) := by decide +kernel
theorem dX9_resume_13 : decode (mC M_X9_resume) 13 = .ok (.aload_n 3, 1) := by decide +kernel
theorem dX9_resume_14 : decode (mC M_X9_resume) 14 = .ok (.invokevirtual 168, 3) := by decide +kernel
theorem dX9_resume_17 : decode (mC M_X9_resume) 17 = .ok (.ifCond .ne 13, 3) := by decide +kernel
theorem dX9_resume_20 : decode (mC M_X9_resume) 20 = .ok (.new 95, 3) := by decide +kernel
theorem dX9_resume_23 : decode (mC M_X9_resume) 23 = .ok (.dup, 1) := by decide +kernel
theorem dX9_resume_24 : decode (mC M_X9_resume) 24 = .ok (.ldc 171, 2) := by decide +kernel
theorem dX9_resume_26 : decode (mC M_X9_resume) 26 = .ok (.invokespecial 99, 3) := by decide +kernel
theorem dX9_resume_29 : decode (mC M_X9_resume) 29 = .ok (.athrow, 1) := by decide +kernel
theorem dX9_resume_30 : decode (mC M_X9_resume) 30 = .ok (.aload 4, 2) := by decide +kernel
theorem dX9_resume_32 : decode (mC M_X9_resume) 32 = .ok (.aload_n 3, 1) := by decide +kernel
theorem dX9_resume_33 : decode (mC M_X9_resume) 33 = .ok (.getfield 173, 3) := by decide +kernel
theorem dX9_resume_36 : decode (mC M_X9_resume) 36 = .ok (.aload_n 3, 1) := by decide +kernel
theorem dX9_resume_37 : decode (mC M_X9_resume) 37 = .ok (.getfield 176, 3) := by decide +kernel
theorem dX9_resume_40 : decode (mC M_X9_resume) 40 = .ok (.aload_n 3, 1) := by decide +kernel
theorem dX9_resume_41 : decode (mC M_X9_resume) 41 = .ok (.getfield 179, 3) := by decide +kernel
theorem dX9_resume_44 : decode (mC M_X9_resume) 44 = .ok (.invokestatic 150, 3) := by decide +kernel
theorem dX9_resume_47 : decode (mC M_X9_resume) 47 = .ok (.aload_n 0, 1) := by decide +kernel
theorem dX9_resume_48 : decode (mC M_X9_resume) 48 = .ok (.aload_n 3, 1) := by decide +kernel
theorem dX9_resume_49 : decode (mC M_X9_resume) 49 = .ok (.aload 4, 2) := by decide +kernel
theorem dX9_resume_51 : decode (mC M_X9_resume) 51 = .ok (.iload_n 2, 1) := by decide +kernel
theorem dX9_resume_52 : decode (mC M_X9_resume) 52 = .ok (.invokevirtual 157, 3) := by decide +kernel
theorem dX9_resume_55 : decode (mC M_X9_resume) 55 = .ok (.aload_n 3, 1) := by decide +kernel
theorem dX9_resume_56 : decode (mC M_X9_resume) 56 = .ok (.invokevirtual 182, 3) := by decide +kernel
theorem dX9_resume_59 : decode (mC M_X9_resume) 59 = .ok (.ireturn, 1) := by decide +kernel
theorem dX9_shoot_0 : decode (mC M_X9_shoot) 0 = .ok (.aload_n 0, 1) := by decide +kernel
theorem dX9_shoot_1 : decode (mC M_X9_shoot) 1 = .ok (.iload_n 1, 1) := by decide +kernel
theorem dX9_shoot_2 : decode (mC M_X9_shoot) 2 = .ok (.invokevirtual 164, 3) := by decide +kernel
theorem dX9_shoot_5 : decode (mC M_X9_shoot) 5 = .ok (.astore 4, 2) := by decide +kernel
theorem dX9_shoot_7 : decode (mC M_X9_shoot) 7 = .ok (.iload_n 2, 1) := by decide +kernel
theorem dX9_shoot_8 : decode (mC M_X9_shoot) 8 = .ok (.iconst 0, 1) := by decide +kernel
theorem dX9_shoot_9 : decode (mC M_X9_shoot) 9 = .ok (.bipush 7, 2) := by decide +kernel
theorem dX9_shoot_11 : decode (mC M_X9_shoot) 11 = .ok (.invokestatic 71, 3) := by decide +kernel
theorem dX9_shoot_14 : decode (mC M_X9_shoot) 14 = .ok (.iload_n 3, 1) := by decide +kernel
theorem dX9_shoot_15 : decode (mC M_X9_shoot) 15 = .ok (.iconst 1, 1) := by decide +kernel
theorem dX9_shoot_16 : decode (mC M_X9_shoot) 16 = .ok (.bipush 40, 2) := by decide +kernel
theorem dX9_shoot_18 : decode (mC M_X9_shoot) 18 = .ok (.invokestatic 71, 3) := by decide +kernel
theorem dX9_shoot_21 : decode (mC M_X9_shoot) 21 = .ok (.aload 4, 2) := by decide +kernel
theorem dX9_shoot_23 : decode (mC M_X9_shoot) 23 = .ok (.getfield 185, 3) := by decide +kernel
theorem dX9_shoot_26 : decode (mC M_X9_shoot) 26 = .ok (.ifnonnull 13, 3) := by decide +kernel
theorem dX9_shoot_29 : decode (mC M_X9_shoot) 29 = .ok (.new 95, 3) := by decide +kernel
theorem dX9_shoot_32 : decode (mC M_X9_shoot) 32 = .ok (.dup, 1) := by decide +kernel
theorem dX9_shoot_33 : decode (mC M_X9_shoot) 33 = .ok (.ldc 189, 2) := by decide +kernel
theorem dX9_shoot_35 : decode (mC M_X9_shoot) 35 = .ok (.invokespecial 99, 3) := by decide +kernel
theorem dX9_shoot_38 : decode (mC M_X9_shoot) 38 = .ok (.athrow, 1) := by decide +kernel
theorem dX9_shoot_39 : decode (mC M_X9_shoot) 39 = .ok (.aload_n 0, 1) := by decide +kernel
theorem dX9_shoot_40 : decode (mC M_X9_shoot) 40 = .ok (.aload 4, 2) := by decide +kernel
theorem dX9_shoot_42 : decode (mC M_X9_shoot) 42 = .ok (.invokevirtual 182, 3) := by decide +kernel
theorem dX9_shoot_45 : decode (mC M_X9_shoot) 45 = .ok (.invokevirtual 191, 3) := by decide +kernel
theorem dX9_shoot_48 : decode (mC M_X9_shoot) 48 = .ok (.astore 5, 2) := by decide +kernel
theorem dX9_shoot_50 : decode (mC M_X9_shoot) 50 = .ok (.aload_n 0, 1) := by decide +kernel
theorem dX9_shoot_51 : decode (mC M_X9_shoot) 51 = .ok (.getfield 55, 3) := by decide +kernel
theorem dX9_shoot_54 : decode (mC M_X9_shoot) 54 = .ok (.aload 4, 2) := by decide +kernel
theorem dX9_shoot_56 : decode (mC M_X9_shoot) 56 = .ok (.getfield 195, 3) := by decide +kernel
theorem dX9_shoot_59 : decode (mC M_X9_shoot) 59 = .ok (.iload_n 2, 1) := by decide +kernel
theorem dX9_shoot_60 : decode (mC M_X9_shoot) 60 = .ok (.aload 5, 2) := by decide +kernel
theorem dX9_shoot_62 : decode (mC M_X9_shoot) 62 = .ok (.iload_n 3, 1) := by decide +kernel
theorem dX9_shoot_63 : decode (mC M_X9_shoot) 63 = .ok (.invokestatic 198, 3) := by decide +kernel
theorem dX9_shoot_66 : decode (mC M_X9_shoot) 66 = .ok (.invokevirtual 202, 3) := by decide +kernel
theorem dX9_shoot_69 : decode (mC M_X9_shoot) 69 = .ok (.aload 5, 2) := by decide +kernel
theorem dX9_shoot_71 : decode (mC M_X9_shoot) 71 = .ok (.ifnull 9, 3) := by decide +kernel
theorem dX9_shoot_74 : decode (mC M_X9_shoot) 74 = .ok (.aload 5, 2) := by decide +kernel
theorem dX9_shoot_76 : decode (mC M_X9_shoot) 76 = .ok (.iload_n 3, 1) := by decide +kernel
theorem dX9_shoot_77 : decode (mC M_X9_shoot) 77 = .ok (.invokevirtual 208, 3) := by decide +kernel
theorem dX9_shoot_80 : decode (mC M_X9_shoot) 80 = .ok (.aload 4, 2) := by decide +kernel
theorem dX9_shoot_82 : decode (mC M_X9_shoot) 82 = .ok (.aload_n 0, 1) := by decide +kernel
theorem dX9_shoot_83 : decode (mC M_X9_shoot) 83 = .ok (.getfield 55, 3) := by decide +kernel
theorem dX9_shoot_86 : decode (mC M_X9_shoot) 86 = .ok (.invokevirtual 211, 3) := by decide +kernel
theorem dX9_shoot_89 : decode (mC M_X9_shoot) 89 = .ok (.istore 6, 2) := by decide +kernel
theorem dX9_shoot_91 : decode (mC M_X9_shoot) 91 = .ok (.aload 4, 2) := by decide +kernel
theorem dX9_shoot_93 : decode (mC M_X9_shoot) 93 = .ok (.invokevirtual 215, 3) := by decide +kernel
theorem dX9_shoot_96 : decode (mC M_X9_shoot) 96 = .ok (.ifCond .eq 18, 3) := by decide +kernel
theorem dX9_shoot_99 : decode (mC M_X9_shoot) 99 = .ok (.aload_n 0, 1) := by decide +kernel
theorem dX9_shoot_100 : decode (mC M_X9_shoot) 100 = .ok (.aload 4, 2) := by decide +kernel
theorem dX9_shoot_102 : decode (mC M_X9_shoot) 102 = .ok (.invokevirtual 218, 3) := by decide +kernel
theorem dX9_shoot_105 : decode (mC M_X9_shoot) 105 = .ok (.aload_n 0, 1) := by decide +kernel
theorem dX9_shoot_106 : decode (mC M_X9_shoot) 106 = .ok (.aload 4, 2) := by decide +kernel
theorem dX9_shoot_108 : decode (mC M_X9_shoot) 108 = .ok (.getfield 185, 3) := by decide +kernel
theorem dX9_shoot_111 : decode (mC M_X9_shoot) 111 = .ok (.invokevirtual 125, 3) := by decide +kernel
theorem dX9_shoot_114 : decode (mC M_X9_shoot) 114 = .ok (.iload 6, 2) := by decide +kernel
theorem dX9_shoot_116 : decode (mC M_X9_shoot) 116 = .ok (.ireturn, 1) := by decide +kernel
theorem dX9_lend_0 : decode (mC M_X9_lend) 0 = .ok (.aload_n 0, 1) := by decide +kernel
theorem dX9_lend_1 : decode (mC M_X9_lend) 1 = .ok (.iload_n 1, 1) := by decide +kernel
theorem dX9_lend_2 : decode (mC M_X9_lend) 2 = .ok (.invokevirtual 222, 3) := by decide +kernel
theorem dX9_lend_5 : decode (mC M_X9_lend) 5 = .ok (.astore_n 3, 1) := by decide +kernel
theorem dX9_lend_6 : decode (mC M_X9_lend) 6 = .ok (.iload_n 2, 1) := by decide +kernel
theorem dX9_lend_7 : decode (mC M_X9_lend) 7 = .ok (.invokestatic 79, 3) := by decide +kernel
theorem dX9_lend_10 : decode (mC M_X9_lend) 10 = .ok (.aload_n 3, 1) := by decide +kernel
theorem dX9_lend_11 : decode (mC M_X9_lend) 11 = .ok (.getfield 225, 3) := by decide +kernel
theorem dX9_lend_14 : decode (mC M_X9_lend) 14 = .ok (.ifnonnull 11, 3) := by decide +kernel
theorem dX9_lend_17 : decode (mC M_X9_lend) 17 = .ok (.aload_n 0, 1) := by decide +kernel
theorem dX9_lend_18 : decode (mC M_X9_lend) 18 = .ok (.iload_n 2, 1) := by decide +kernel
theorem dX9_lend_19 : decode (mC M_X9_lend) 19 = .ok (.invokevirtual 191, 3) := by decide +kernel
theorem dX9_lend_22 : decode (mC M_X9_lend) 22 = .ok (.ifnull 13, 3) := by decide +kernel
theorem dX9_lend_25 : decode (mC M_X9_lend) 25 = .ok (.new 95, 3) := by decide +kernel
theorem dX9_lend_28 : decode (mC M_X9_lend) 28 = .ok (.dup, 1) := by decide +kernel
theorem dX9_lend_29 : decode (mC M_X9_lend) 29 = .ok (.ldc 229, 2) := by decide +kernel
theorem dX9_lend_31 : decode (mC M_X9_lend) 31 = .ok (.invokespecial 99, 3) := by decide +kernel
theorem dX9_lend_34 : decode (mC M_X9_lend) 34 = .ok (.athrow, 1) := by decide +kernel
theorem dX9_lend_35 : decode (mC M_X9_lend) 35 = .ok (.new 39, 3) := by decide +kernel
theorem dX9_lend_38 : decode (mC M_X9_lend) 38 = .ok (.dup, 1) := by decide +kernel
theorem dX9_lend_39 : decode (mC M_X9_lend) 39 = .ok (.iload_n 2, 1) := by decide +kernel
theorem dX9_lend_40 : decode (mC M_X9_lend) 40 = .ok (.aload_n 3, 1) := by decide +kernel
theorem dX9_lend_41 : decode (mC M_X9_lend) 41 = .ok (.getfield 231, 3) := by decide +kernel
theorem dX9_lend_44 : decode (mC M_X9_lend) 44 = .ok (.invokespecial 234, 3) := by decide +kernel
theorem dX9_lend_47 : decode (mC M_X9_lend) 47 = .ok (.astore 4, 2) := by decide +kernel
theorem dX9_lend_49 : decode (mC M_X9_lend) 49 = .ok (.aload_n 3, 1) := by decide +kernel
theorem dX9_lend_50 : decode (mC M_X9_lend) 50 = .ok (.aload 4, 2) := by decide +kernel
theorem dX9_lend_52 : decode (mC M_X9_lend) 52 = .ok (.putfield 225, 3) := by decide +kernel
theorem dX9_lend_55 : decode (mC M_X9_lend) 55 = .ok (.aload_n 0, 1) := by decide +kernel
theorem dX9_lend_56 : decode (mC M_X9_lend) 56 = .ok (.getfield 237, 3) := by decide +kernel
theorem dX9_lend_59 : decode (mC M_X9_lend) 59 = .ok (.aload_n 0, 1) := by decide +kernel
theorem dX9_lend_60 : decode (mC M_X9_lend) 60 = .ok (.getfield 41, 3) := by decide +kernel
theorem dX9_lend_63 : decode (mC M_X9_lend) 63 = .ok (.arraylength, 1) := by decide +kernel
theorem dX9_lend_64 : decode (mC M_X9_lend) 64 = .ok (.if_icmp .ge 24, 3) := by decide +kernel
theorem dX9_lend_67 : decode (mC M_X9_lend) 67 = .ok (.aload_n 0, 1) := by decide +kernel
theorem dX9_lend_68 : decode (mC M_X9_lend) 68 = .ok (.getfield 41, 3) := by decide +kernel
theorem dX9_lend_71 : decode (mC M_X9_lend) 71 = .ok (.aload_n 0, 1) := by decide +kernel
theorem dX9_lend_72 : decode (mC M_X9_lend) 72 = .ok (.getfield 237, 3) := by decide +kernel
theorem dX9_lend_75 : decode (mC M_X9_lend) 75 = .ok (.aload 4, 2) := by decide +kernel
theorem dX9_lend_77 : decode (mC M_X9_lend) 77 = .ok (.aastore, 1) := by decide +kernel
theorem dX9_lend_78 : decode (mC M_X9_lend) 78 = .ok (.aload_n 0, 1) := by decide +kernel
theorem dX9_lend_79 : decode (mC M_X9_lend) 79 = .ok (.dup, 1) := by decide +kernel
theorem dX9_lend_80 : decode (mC M_X9_lend) 80 = .ok (.getfield 237, 3) := by decide +kernel
theorem dX9_lend_83 : decode (mC M_X9_lend) 83 = .ok (.iconst 1, 1) := by decide +kernel
theorem dX9_lend_84 : decode (mC M_X9_lend) 84 = .ok (.iadd, 1) := by decide +kernel
theorem dX9_lend_85 : decode (mC M_X9_lend) 85 = .ok (.putfield 237, 3) := by decide +kernel
theorem dX9_lend_88 : decode (mC M_X9_lend) 88 = .ok (.aload_n 0, 1) := by decide +kernel
theorem dX9_lend_89 : decode (mC M_X9_lend) 89 = .ok (.iload_n 2, 1) := by decide +kernel
theorem dX9_lend_90 : decode (mC M_X9_lend) 90 = .ok (.bipush 20, 2) := by decide +kernel
theorem dX9_lend_92 : decode (mC M_X9_lend) 92 = .ok (.invokevirtual 240, 3) := by decide +kernel
theorem dX9_lend_95 : decode (mC M_X9_lend) 95 = .ok (.aload_n 3, 1) := by decide +kernel
theorem dX9_lend_96 : decode (mC M_X9_lend) 96 = .ok (.getfield 231, 3) := by decide +kernel
theorem dX9_lend_99 : decode (mC M_X9_lend) 99 = .ok (.ireturn, 1) := by decide +kernel
theorem dX9_takeBack_0 : decode (mC M_X9_takeBack) 0 = .ok (.aload_n 0, 1) := by decide +kernel
theorem dX9_takeBack_1 : decode (mC M_X9_takeBack) 1 = .ok (.iload_n 1, 1) := by decide +kernel
theorem dX9_takeBack_2 : decode (mC M_X9_takeBack) 2 = .ok (.invokevirtual 222, 3) := by decide +kernel
theorem dX9_takeBack_5 : decode (mC M_X9_takeBack) 5 = .ok (.astore_n 2, 1) := by decide +kernel
theorem dX9_takeBack_6 : decode (mC M_X9_takeBack) 6 = .ok (.aload_n 2, 1) := by decide +kernel
theorem dX9_takeBack_7 : decode (mC M_X9_takeBack) 7 = .ok (.getfield 225, 3) := by decide +kernel
theorem dX9_takeBack_10 : decode (mC M_X9_takeBack) 10 = .ok (.astore_n 3, 1) := by decide +kernel
theorem dX9_takeBack_11 : decode (mC M_X9_takeBack) 11 = .ok (.aload_n 3, 1) := by decide +kernel
theorem dX9_takeBack_12 : decode (mC M_X9_takeBack) 12 = .ok (.ifnonnull 13, 3) := by decide +kernel
theorem dX9_takeBack_15 : decode (mC M_X9_takeBack) 15 = .ok (.new 95, 3) := by decide +kernel
theorem dX9_takeBack_18 : decode (mC M_X9_takeBack) 18 = .ok (.dup, 1) := by decide +kernel
theorem dX9_takeBack_19 : decode (mC M_X9_takeBack) 19 = .ok (.ldc 243, 2) := by decide +kernel
theorem dX9_takeBack_21 : decode (mC M_X9_takeBack) 21 = .ok (.invokespecial 99, 3) := by decide +kernel
theorem dX9_takeBack_24 : decode (mC M_X9_takeBack) 24 = .ok (.athrow, 1) := by decide +kernel
theorem dX9_takeBack_25 : decode (mC M_X9_takeBack) 25 = .ok (.aload_n 3, 1) := by decide +kernel
theorem dX9_takeBack_26 : decode (mC M_X9_takeBack) 26 = .ok (.aload_n 2, 1) := by decide +kernel
theorem dX9_takeBack_27 : decode (mC M_X9_takeBack) 27 = .ok (.getfield 231, 3) := by decide +kernel
theorem dX9_takeBack_30 : decode (mC M_X9_takeBack) 30 = .ok (.invokevirtual 245, 3) := by decide +kernel
theorem dX9_takeBack_33 : decode (mC M_X9_takeBack) 33 = .ok (.aload_n 2, 1) := by decide +kernel
theorem dX9_takeBack_34 : decode (mC M_X9_takeBack) 34 = .ok (.aconst_null, 1) := by decide +kernel
theorem dX9_takeBack_35 : decode (mC M_X9_takeBack) 35 = .ok (.putfield 225, 3) := by decide +kernel
theorem dX9_takeBack_38 : decode (mC M_X9_takeBack) 38 = .ok (.bipush 20, 2) := by decide +kernel
theorem dX9_takeBack_40 : decode (mC M_X9_takeBack) 40 = .ok (.aload_n 3, 1) := by decide +kernel
theorem dX9_takeBack_41 : decode (mC M_X9_takeBack) 41 = .ok (.invokevirtual 248, 3) := by decide +kernel
theorem dX9_takeBack_44 : decode (mC M_X9_takeBack) 44 = .ok (.isub, 1) := by decide +kernel
theorem dX9_takeBack_45 : decode (mC M_X9_takeBack) 45 = .ok (.istore 4, 2) := by decide +kernel
theorem dX9_takeBack_47 : decode (mC M_X9_takeBack) 47 = .ok (.aload_n 0, 1) := by decide +kernel
theorem dX9_takeBack_48 : decode (mC M_X9_takeBack) 48 = .ok (.aload_n 3, 1) := by decide +kernel
theorem dX9_takeBack_49 : decode (mC M_X9_takeBack) 49 = .ok (.getfield 251, 3) := by decide +kernel
theorem dX9_takeBack_52 : decode (mC M_X9_takeBack) 52 = .ok (.iload 4, 2) := by decide +kernel
theorem dX9_takeBack_54 : decode (mC M_X9_takeBack) 54 = .ok (.ineg, 1) := by decide +kernel
theorem dX9_takeBack_55 : decode (mC M_X9_takeBack) 55 = .ok (.invokevirtual 240, 3) := by decide +kernel
theorem dX9_takeBack_58 : decode (mC M_X9_takeBack) 58 = .ok (.iload 4, 2) := by decide +kernel
theorem dX9_takeBack_60 : decode (mC M_X9_takeBack) 60 = .ok (.ireturn, 1) := by decide +kernel
theorem dX9_tip_0 : decode (mC M_X9_tip) 0 = .ok (.aload_n 0, 1) := by decide +kernel
theorem dX9_tip_1 : decode (mC M_X9_tip) 1 = .ok (.iload_n 1, 1) := by decide +kernel
theorem dX9_tip_2 : decode (mC M_X9_tip) 2 = .ok (.invokevirtual 222, 3) := by decide +kernel
theorem dX9_tip_5 : decode (mC M_X9_tip) 5 = .ok (.astore_n 2, 1) := by decide +kernel
theorem dX9_tip_6 : decode (mC M_X9_tip) 6 = .ok (.aload_n 2, 1) := by decide +kernel
theorem dX9_tip_7 : decode (mC M_X9_tip) 7 = .ok (.getfield 225, 3) := by decide +kernel
theorem dX9_tip_10 : decode (mC M_X9_tip) 10 = .ok (.ifnull 13, 3) := by decide +kernel
theorem dX9_tip_13 : decode (mC M_X9_tip) 13 = .ok (.new 95, 3) := by decide +kernel
theorem dX9_tip_16 : decode (mC M_X9_tip) 16 = .ok (.dup, 1) := by decide +kernel
theorem dX9_tip_17 : decode (mC M_X9_tip) 17 = .ok (.ldc 254, 2) := by decide +kernel
theorem dX9_tip_19 : decode (mC M_X9_tip) 19 = .ok (.invokespecial 99, 3) := by decide +kernel
theorem dX9_tip_22 : decode (mC M_X9_tip) 22 = .ok (.athrow, 1) := by decide +kernel
theorem dX9_tip_23 : decode (mC M_X9_tip) 23 = .ok (.aload_n 2, 1) := by decide +kernel
theorem dX9_tip_24 : decode (mC M_X9_tip) 24 = .ok (.getfield 231, 3) := by decide +kernel
theorem dX9_tip_27 : decode (mC M_X9_tip) 27 = .ok (.istore_n 3, 1) := by decide +kernel
theorem dX9_tip_28 : decode (mC M_X9_tip) 28 = .ok (.aload_n 2, 1) := by decide +kernel
theorem dX9_tip_29 : decode (mC M_X9_tip) 29 = .ok (.iconst 0, 1) := by decide +kernel
theorem dX9_tip_30 : decode (mC M_X9_tip) 30 = .ok (.putfield 231, 3) := by decide +kernel
theorem dX9_tip_33 : decode (mC M_X9_tip) 33 = .ok (.iload_n 3, 1) := by decide +kernel
theorem dX9_tip_34 : decode (mC M_X9_tip) 34 = .ok (.ireturn, 1) := by decide +kernel
theorem dX9_minute_0 : decode (mC M_X9_minute) 0 = .ok (.aload_n 0, 1) := by decide +kernel
theorem dX9_minute_1 : decode (mC M_X9_minute) 1 = .ok (.getfield 102, 3) := by decide +kernel
theorem dX9_minute_4 : decode (mC M_X9_minute) 4 = .ok (.ireturn, 1) := by decide +kernel
theorem dX9_isOpen_0 : decode (mC M_X9_isOpen) 0 = .ok (.aload_n 0, 1) := by decide +kernel
theorem dX9_isOpen_1 : decode (mC M_X9_isOpen) 1 = .ok (.iload_n 1, 1) := by decide +kernel
theorem dX9_isOpen_2 : decode (mC M_X9_isOpen) 2 = .ok (.invokevirtual 75, 3) := by decide +kernel
theorem dX9_isOpen_5 : decode (mC M_X9_isOpen) 5 = .ok (.getfield 83, 3) := by decide +kernel
theorem dX9_isOpen_8 : decode (mC M_X9_isOpen) 8 = .ok (.ireturn, 1) := by decide +kernel
theorem dX9_renter_0 : decode (mC M_X9_renter) 0 = .ok (.aload_n 0, 1) := by decide +kernel
theorem dX9_renter_1 : decode (mC M_X9_renter) 1 = .ok (.iload_n 1, 1) := by decide +kernel
theorem dX9_renter_2 : decode (mC M_X9_renter) 2 = .ok (.invokevirtual 75, 3) := by decide +kernel
theorem dX9_renter_5 : decode (mC M_X9_renter) 5 = .ok (.getfield 87, 3) := by decide +kernel
theorem dX9_renter_8 : decode (mC M_X9_renter) 8 = .ok (.astore_n 2, 1) := by decide +kernel
theorem dX9_renter_9 : decode (mC M_X9_renter) 9 = .ok (.aload_n 2, 1) := by decide +kernel
theorem dX9_renter_10 : decode (mC M_X9_renter) 10 = .ok (.ifnonnull 7, 3) := by decide +kernel
theorem dX9_renter_13 : decode (mC M_X9_renter) 13 = .ok (.iconst (-1), 1) := by decide +kernel
theorem dX9_renter_14 : decode (mC M_X9_renter) 14 = .ok (.goto 7, 3) := by decide +kernel
theorem dX9_renter_17 : decode (mC M_X9_renter) 17 = .ok (.aload_n 2, 1) := by decide +kernel
theorem dX9_renter_18 : decode (mC M_X9_renter) 18 = .ok (.getfield 256, 3) := by decide +kernel
theorem dX9_renter_21 : decode (mC M_X9_renter) 21 = .ok (.ireturn, 1) := by decide +kernel
theorem dX9_clock_0 : decode (mC M_X9_clock) 0 = .ok (.aload_n 0, 1) := by decide +kernel
theorem dX9_clock_1 : decode (mC M_X9_clock) 1 = .ok (.iload_n 1, 1) := by decide +kernel
theorem dX9_clock_2 : decode (mC M_X9_clock) 2 = .ok (.invokevirtual 75, 3) := by decide +kernel
theorem dX9_clock_5 : decode (mC M_X9_clock) 5 = .ok (.astore_n 2, 1) := by decide +kernel
theorem dX9_clock_6 : decode (mC M_X9_clock) 6 = .ok (.aload_n 2, 1) := by decide +kernel
theorem dX9_clock_7 : decode (mC M_X9_clock) 7 = .ok (.getfield 87, 3) := by decide +kernel
theorem dX9_clock_10 : decode (mC M_X9_clock) 10 = .ok (.ifnonnull 7, 3) := by decide +kernel
theorem dX9_clock_13 : decode (mC M_X9_clock) 13 = .ok (.iconst 0, 1) := by decide +kernel
theorem dX9_clock_14 : decode (mC M_X9_clock) 14 = .ok (.goto 7, 3) := by decide +kernel
theorem dX9_clock_17 : decode (mC M_X9_clock) 17 = .ok (.aload_n 2, 1) := by decide +kernel
theorem dX9_clock_18 : decode (mC M_X9_clock) 18 = .ok (.getfield 107, 3) := by decide +kernel
theorem dX9_clock_21 : decode (mC M_X9_clock) 21 = .ok (.ireturn, 1) := by decide +kernel
theorem dX9_frameOn_0 : decode (mC M_X9_frameOn) 0 = .ok (.aload_n 0, 1) := by decide +kernel
theorem dX9_frameOn_1 : decode (mC M_X9_frameOn) 1 = .ok (.iload_n 1, 1) := by decide +kernel
theorem dX9_frameOn_2 : decode (mC M_X9_frameOn) 2 = .ok (.invokevirtual 75, 3) := by decide +kernel
theorem dX9_frameOn_5 : decode (mC M_X9_frameOn) 5 = .ok (.getfield 257, 3) := by decide +kernel
theorem dX9_frameOn_8 : decode (mC M_X9_frameOn) 8 = .ok (.astore_n 2, 1) := by decide +kernel
theorem dX9_frameOn_9 : decode (mC M_X9_frameOn) 9 = .ok (.aload_n 2, 1) := by decide +kernel
theorem dX9_frameOn_10 : decode (mC M_X9_frameOn) 10 = .ok (.ifnonnull 7, 3) := by decide +kernel
theorem dX9_frameOn_13 : decode (mC M_X9_frameOn) 13 = .ok (.iconst (-1), 1) := by decide +kernel
theorem dX9_frameOn_14 : decode (mC M_X9_frameOn) 14 = .ok (.goto 7, 3) := by decide +kernel
theorem dX9_frameOn_17 : decode (mC M_X9_frameOn) 17 = .ok (.aload_n 2, 1) := by decide +kernel
theorem dX9_frameOn_18 : decode (mC M_X9_frameOn) 18 = .ok (.getfield 161, 3) := by decide +kernel
theorem dX9_frameOn_21 : decode (mC M_X9_frameOn) 21 = .ok (.ireturn, 1) := by decide +kernel
theorem dX9_owes_0 : decode (mC M_X9_owes) 0 = .ok (.iload_n 1, 1) := by decide +kernel
theorem dX9_owes_1 : decode (mC M_X9_owes) 1 = .ok (.invokestatic 79, 3) := by decide +kernel
theorem dX9_owes_4 : decode (mC M_X9_owes) 4 = .ok (.aload_n 0, 1) := by decide +kernel
theorem dX9_owes_5 : decode (mC M_X9_owes) 5 = .ok (.getfield 45, 3) := by decide +kernel
theorem dX9_owes_8 : decode (mC M_X9_owes) 8 = .ok (.iload_n 1, 1) := by decide +kernel
theorem dX9_owes_9 : decode (mC M_X9_owes) 9 = .ok (.iaload, 1) := by decide +kernel
theorem dX9_owes_10 : decode (mC M_X9_owes) 10 = .ok (.ireturn, 1) := by decide +kernel
theorem dX9_owesAnew_0 : decode (mC M_X9_owesAnew) 0 = .ok (.iload_n 1, 1) := by decide +kernel
theorem dX9_owesAnew_1 : decode (mC M_X9_owesAnew) 1 = .ok (.invokestatic 79, 3) := by decide +kernel
theorem dX9_owesAnew_4 : decode (mC M_X9_owesAnew) 4 = .ok (.aload_n 0, 1) := by decide +kernel
theorem dX9_owesAnew_5 : decode (mC M_X9_owesAnew) 5 = .ok (.iload_n 1, 1) := by decide +kernel
theorem dX9_owesAnew_6 : decode (mC M_X9_owesAnew) 6 = .ok (.invokevirtual 261, 3) := by decide +kernel
theorem dX9_owesAnew_9 : decode (mC M_X9_owesAnew) 9 = .ok (.aload_n 0, 1) := by decide +kernel
theorem dX9_owesAnew_10 : decode (mC M_X9_owesAnew) 10 = .ok (.iload_n 1, 1) := by decide +kernel
theorem dX9_owesAnew_11 : decode (mC M_X9_owesAnew) 11 = .ok (.invokevirtual 265, 3) := by decide +kernel
theorem dX9_owesAnew_14 : decode (mC M_X9_owesAnew) 14 = .ok (.iadd, 1) := by decide +kernel
theorem dX9_owesAnew_15 : decode (mC M_X9_owesAnew) 15 = .ok (.ireturn, 1) := by decide +kernel
theorem dX9_frames_0 : decode (mC M_X9_frames) 0 = .ok (.aload_n 0, 1) := by decide +kernel
theorem dX9_frames_1 : decode (mC M_X9_frames) 1 = .ok (.getfield 145, 3) := by decide +kernel
theorem dX9_frames_4 : decode (mC M_X9_frames) 4 = .ok (.ireturn, 1) := by decide +kernel
theorem dX9_state_0 : decode (mC M_X9_state) 0 = .ok (.aload_n 0, 1) := by decide +kernel
theorem dX9_state_1 : decode (mC M_X9_state) 1 = .ok (.iload_n 1, 1) := by decide +kernel
theorem dX9_state_2 : decode (mC M_X9_state) 2 = .ok (.invokevirtual 164, 3) := by decide +kernel
theorem dX9_state_5 : decode (mC M_X9_state) 5 = .ok (.astore_n 2, 1) := by decide +kernel
theorem dX9_state_6 : decode (mC M_X9_state) 6 = .ok (.aload_n 2, 1) := by decide +kernel
theorem dX9_state_7 : decode (mC M_X9_state) 7 = .ok (.invokevirtual 215, 3) := by decide +kernel
theorem dX9_state_10 : decode (mC M_X9_state) 10 = .ok (.ifCond .eq 5, 3) := by decide +kernel
theorem dX9_state_13 : decode (mC M_X9_state) 13 = .ok (.iconst 2, 1) := by decide +kernel
theorem dX9_state_14 : decode (mC M_X9_state) 14 = .ok (.ireturn, 1) := by decide +kernel
theorem dX9_state_15 : decode (mC M_X9_state) 15 = .ok (.aload_n 2, 1) := by decide +kernel
theorem dX9_state_16 : decode (mC M_X9_state) 16 = .ok (.invokevirtual 168, 3) := by decide +kernel
theorem dX9_state_19 : decode (mC M_X9_state) 19 = .ok (.ifCond .eq 7, 3) := by decide +kernel
theorem dX9_state_22 : decode (mC M_X9_state) 22 = .ok (.iconst 1, 1) := by decide +kernel
theorem dX9_state_23 : decode (mC M_X9_state) 23 = .ok (.goto 4, 3) := by decide +kernel
theorem dX9_state_26 : decode (mC M_X9_state) 26 = .ok (.iconst 0, 1) := by decide +kernel
theorem dX9_state_27 : decode (mC M_X9_state) 27 = .ok (.ireturn, 1) := by decide +kernel
theorem dX9_cell_0 : decode (mC M_X9_cell) 0 = .ok (.aload_n 0, 1) := by decide +kernel
theorem dX9_cell_1 : decode (mC M_X9_cell) 1 = .ok (.iload_n 1, 1) := by decide +kernel
theorem dX9_cell_2 : decode (mC M_X9_cell) 2 = .ok (.invokevirtual 164, 3) := by decide +kernel
theorem dX9_cell_5 : decode (mC M_X9_cell) 5 = .ok (.astore_n 3, 1) := by decide +kernel
theorem dX9_cell_6 : decode (mC M_X9_cell) 6 = .ok (.iload_n 2, 1) := by decide +kernel
theorem dX9_cell_7 : decode (mC M_X9_cell) 7 = .ok (.ifCond .lt 12, 3) := by decide +kernel
theorem dX9_cell_10 : decode (mC M_X9_cell) 10 = .ok (.iload_n 2, 1) := by decide +kernel
theorem dX9_cell_11 : decode (mC M_X9_cell) 11 = .ok (.aload_n 3, 1) := by decide +kernel
theorem dX9_cell_12 : decode (mC M_X9_cell) 12 = .ok (.getfield 195, 3) := by decide +kernel
theorem dX9_cell_15 : decode (mC M_X9_cell) 15 = .ok (.arraylength, 1) := by decide +kernel
theorem dX9_cell_16 : decode (mC M_X9_cell) 16 = .ok (.if_icmp .lt 14, 3) := by decide +kernel
theorem dX9_cell_19 : decode (mC M_X9_cell) 19 = .ok (.new 268, 3) := by decide +kernel
theorem dX9_cell_22 : decode (mC M_X9_cell) 22 = .ok (.dup, 1) := by decide +kernel
theorem dX9_cell_23 : decode (mC M_X9_cell) 23 = .ok (.ldc_w 270, 3) := by decide +kernel
theorem dX9_cell_26 : decode (mC M_X9_cell) 26 = .ok (.invokespecial 272, 3) := by decide +kernel
theorem dX9_cell_29 : decode (mC M_X9_cell) 29 = .ok (.athrow, 1) := by decide +kernel
theorem dX9_cell_30 : decode (mC M_X9_cell) 30 = .ok (.aload_n 3, 1) := by decide +kernel
theorem dX9_cell_31 : decode (mC M_X9_cell) 31 = .ok (.getfield 195, 3) := by decide +kernel
theorem dX9_cell_34 : decode (mC M_X9_cell) 34 = .ok (.iload_n 2, 1) := by decide +kernel
theorem dX9_cell_35 : decode (mC M_X9_cell) 35 = .ok (.iaload, 1) := by decide +kernel
theorem dX9_cell_36 : decode (mC M_X9_cell) 36 = .ok (.ireturn, 1) := by decide +kernel
theorem dX9_ballOn_0 : decode (mC M_X9_ballOn) 0 = .ok (.aload_n 0, 1) := by decide +kernel
theorem dX9_ballOn_1 : decode (mC M_X9_ballOn) 1 = .ok (.iload_n 1, 1) := by decide +kernel
theorem dX9_ballOn_2 : decode (mC M_X9_ballOn) 2 = .ok (.invokevirtual 164, 3) := by decide +kernel
theorem dX9_ballOn_5 : decode (mC M_X9_ballOn) 5 = .ok (.invokevirtual 273, 3) := by decide +kernel
theorem dX9_ballOn_8 : decode (mC M_X9_ballOn) 8 = .ok (.ireturn, 1) := by decide +kernel
theorem dX9_isFree_0 : decode (mC M_X9_isFree) 0 = .ok (.aload_n 0, 1) := by decide +kernel
theorem dX9_isFree_1 : decode (mC M_X9_isFree) 1 = .ok (.iload_n 1, 1) := by decide +kernel
theorem dX9_isFree_2 : decode (mC M_X9_isFree) 2 = .ok (.invokevirtual 164, 3) := by decide +kernel
theorem dX9_isFree_5 : decode (mC M_X9_isFree) 5 = .ok (.getfield 276, 3) := by decide +kernel
theorem dX9_isFree_8 : decode (mC M_X9_isFree) 8 = .ok (.ireturn, 1) := by decide +kernel
theorem dX9_turn_0 : decode (mC M_X9_turn) 0 = .ok (.aload_n 0, 1) := by decide +kernel
theorem dX9_turn_1 : decode (mC M_X9_turn) 1 = .ok (.iload_n 1, 1) := by decide +kernel
theorem dX9_turn_2 : decode (mC M_X9_turn) 2 = .ok (.invokevirtual 164, 3) := by decide +kernel
theorem dX9_turn_5 : decode (mC M_X9_turn) 5 = .ok (.astore_n 2, 1) := by decide +kernel
theorem dX9_turn_6 : decode (mC M_X9_turn) 6 = .ok (.aload_n 2, 1) := by decide +kernel
theorem dX9_turn_7 : decode (mC M_X9_turn) 7 = .ok (.invokevirtual 215, 3) := by decide +kernel
theorem dX9_turn_10 : decode (mC M_X9_turn) 10 = .ok (.ifCond .eq 7, 3) := by decide +kernel
theorem dX9_turn_13 : decode (mC M_X9_turn) 13 = .ok (.iconst (-1), 1) := by decide +kernel
theorem dX9_turn_14 : decode (mC M_X9_turn) 14 = .ok (.goto 7, 3) := by decide +kernel
theorem dX9_turn_17 : decode (mC M_X9_turn) 17 = .ok (.aload_n 2, 1) := by decide +kernel
theorem dX9_turn_18 : decode (mC M_X9_turn) 18 = .ok (.invokevirtual 182, 3) := by decide +kernel
theorem dX9_turn_21 : decode (mC M_X9_turn) 21 = .ok (.ireturn, 1) := by decide +kernel
theorem dX9_points_0 : decode (mC M_X9_points) 0 = .ok (.aload_n 0, 1) := by decide +kernel
theorem dX9_points_1 : decode (mC M_X9_points) 1 = .ok (.iload_n 1, 1) := by decide +kernel
theorem dX9_points_2 : decode (mC M_X9_points) 2 = .ok (.invokevirtual 164, 3) := by decide +kernel
theorem dX9_points_5 : decode (mC M_X9_points) 5 = .ok (.astore_n 3, 1) := by decide +kernel
theorem dX9_points_6 : decode (mC M_X9_points) 6 = .ok (.iload_n 2, 1) := by decide +kernel
theorem dX9_points_7 : decode (mC M_X9_points) 7 = .ok (.ifCond .eq 10, 3) := by decide +kernel
theorem dX9_points_10 : decode (mC M_X9_points) 10 = .ok (.aload_n 3, 1) := by decide +kernel
theorem dX9_points_11 : decode (mC M_X9_points) 11 = .ok (.getfield 279, 3) := by decide +kernel
theorem dX9_points_14 : decode (mC M_X9_points) 14 = .ok (.goto 7, 3) := by decide +kernel
theorem dX9_points_17 : decode (mC M_X9_points) 17 = .ok (.aload_n 3, 1) := by decide +kernel
theorem dX9_points_18 : decode (mC M_X9_points) 18 = .ok (.getfield 282, 3) := by decide +kernel
theorem dX9_points_21 : decode (mC M_X9_points) 21 = .ok (.ireturn, 1) := by decide +kernel
theorem dX9_winner_0 : decode (mC M_X9_winner) 0 = .ok (.aload_n 0, 1) := by decide +kernel
theorem dX9_winner_1 : decode (mC M_X9_winner) 1 = .ok (.iload_n 1, 1) := by decide +kernel
theorem dX9_winner_2 : decode (mC M_X9_winner) 2 = .ok (.invokevirtual 164, 3) := by decide +kernel
theorem dX9_winner_5 : decode (mC M_X9_winner) 5 = .ok (.getfield 285, 3) := by decide +kernel
theorem dX9_winner_8 : decode (mC M_X9_winner) 8 = .ok (.ireturn, 1) := by decide +kernel
theorem dX9_contacts_0 : decode (mC M_X9_contacts) 0 = .ok (.aload_n 0, 1) := by decide +kernel
theorem dX9_contacts_1 : decode (mC M_X9_contacts) 1 = .ok (.aload_n 0, 1) := by decide +kernel
theorem dX9_contacts_2 : decode (mC M_X9_contacts) 2 = .ok (.getfield 55, 3) := by decide +kernel
theorem dX9_contacts_5 : decode (mC M_X9_contacts) 5 = .ok (.iload_n 1, 1) := by decide +kernel
theorem dX9_contacts_6 : decode (mC M_X9_contacts) 6 = .ok (.iload_n 2, 1) := by decide +kernel
theorem dX9_contacts_7 : decode (mC M_X9_contacts) 7 = .ok (.iload_n 3, 1) := by decide +kernel
theorem dX9_contacts_8 : decode (mC M_X9_contacts) 8 = .ok (.invokevirtual 288, 3) := by decide +kernel
theorem dX9_contacts_11 : decode (mC M_X9_contacts) 11 = .ok (.ireturn, 1) := by decide +kernel
theorem dX9_contactsByPairs_0 : decode (mC M_X9_contactsByPairs) 0 = .ok (.aload_n 0, 1) := by decide +kernel
theorem dX9_contactsByPairs_1 : decode (mC M_X9_contactsByPairs) 1 = .ok (.aload_n 0, 1) := by decide +kernel
theorem dX9_contactsByPairs_2 : decode (mC M_X9_contactsByPairs) 2 = .ok (.getfield 62, 3) := by decide +kernel
theorem dX9_contactsByPairs_5 : decode (mC M_X9_contactsByPairs) 5 = .ok (.iload_n 1, 1) := by decide +kernel
theorem dX9_contactsByPairs_6 : decode (mC M_X9_contactsByPairs) 6 = .ok (.iload_n 2, 1) := by decide +kernel
theorem dX9_contactsByPairs_7 : decode (mC M_X9_contactsByPairs) 7 = .ok (.iload_n 3, 1) := by decide +kernel
theorem dX9_contactsByPairs_8 : decode (mC M_X9_contactsByPairs) 8 = .ok (.invokevirtual 288, 3) := by decide +kernel
theorem dX9_contactsByPairs_11 : decode (mC M_X9_contactsByPairs) 11 = .ok (.ireturn, 1) := by decide +kernel
theorem dX9_wins_0 : decode (mC M_X9_wins) 0 = .ok (.iload_n 1, 1) := by decide +kernel
theorem dX9_wins_1 : decode (mC M_X9_wins) 1 = .ok (.invokestatic 79, 3) := by decide +kernel
theorem dX9_wins_4 : decode (mC M_X9_wins) 4 = .ok (.aload_n 0, 1) := by decide +kernel
theorem dX9_wins_5 : decode (mC M_X9_wins) 5 = .ok (.getfield 49, 3) := by decide +kernel
theorem dX9_wins_8 : decode (mC M_X9_wins) 8 = .ok (.iload_n 1, 1) := by decide +kernel
theorem dX9_wins_9 : decode (mC M_X9_wins) 9 = .ok (.iaload, 1) := by decide +kernel
theorem dX9_wins_10 : decode (mC M_X9_wins) 10 = .ok (.ireturn, 1) := by decide +kernel
theorem dX9_rank_0 : decode (mC M_X9_rank) 0 = .ok (.iload_n 1, 1) := by decide +kernel
theorem dX9_rank_1 : decode (mC M_X9_rank) 1 = .ok (.invokestatic 79, 3) := by decide +kernel
theorem dX9_rank_4 : decode (mC M_X9_rank) 4 = .ok (.iconst 0, 1) := by decide +kernel
theorem dX9_rank_5 : decode (mC M_X9_rank) 5 = .ok (.istore_n 2, 1) := by decide +kernel
theorem dX9_rank_6 : decode (mC M_X9_rank) 6 = .ok (.aload_n 0, 1) := by decide +kernel
theorem dX9_rank_7 : decode (mC M_X9_rank) 7 = .ok (.getfield 49, 3) := by decide +kernel
theorem dX9_rank_10 : decode (mC M_X9_rank) 10 = .ok (.astore_n 3, 1) := by decide +kernel
theorem dX9_rank_11 : decode (mC M_X9_rank) 11 = .ok (.aload_n 3, 1) := by decide +kernel
theorem dX9_rank_12 : decode (mC M_X9_rank) 12 = .ok (.arraylength, 1) := by decide +kernel
theorem dX9_rank_13 : decode (mC M_X9_rank) 13 = .ok (.istore 4, 2) := by decide +kernel
theorem dX9_rank_15 : decode (mC M_X9_rank) 15 = .ok (.iconst 0, 1) := by decide +kernel
theorem dX9_rank_16 : decode (mC M_X9_rank) 16 = .ok (.istore 5, 2) := by decide +kernel
theorem dX9_rank_18 : decode (mC M_X9_rank) 18 = .ok (.iload 5, 2) := by decide +kernel
theorem dX9_rank_20 : decode (mC M_X9_rank) 20 = .ok (.iload 4, 2) := by decide +kernel
theorem dX9_rank_22 : decode (mC M_X9_rank) 22 = .ok (.if_icmp .ge 29, 3) := by decide +kernel
theorem dX9_rank_25 : decode (mC M_X9_rank) 25 = .ok (.aload_n 3, 1) := by decide +kernel
theorem dX9_rank_26 : decode (mC M_X9_rank) 26 = .ok (.iload 5, 2) := by decide +kernel
theorem dX9_rank_28 : decode (mC M_X9_rank) 28 = .ok (.iaload, 1) := by decide +kernel
theorem dX9_rank_29 : decode (mC M_X9_rank) 29 = .ok (.istore 6, 2) := by decide +kernel
theorem dX9_rank_31 : decode (mC M_X9_rank) 31 = .ok (.iload 6, 2) := by decide +kernel
theorem dX9_rank_33 : decode (mC M_X9_rank) 33 = .ok (.aload_n 0, 1) := by decide +kernel
theorem dX9_rank_34 : decode (mC M_X9_rank) 34 = .ok (.getfield 49, 3) := by decide +kernel
theorem dX9_rank_37 : decode (mC M_X9_rank) 37 = .ok (.iload_n 1, 1) := by decide +kernel
theorem dX9_rank_38 : decode (mC M_X9_rank) 38 = .ok (.iaload, 1) := by decide +kernel
theorem dX9_rank_39 : decode (mC M_X9_rank) 39 = .ok (.if_icmp .le 6, 3) := by decide +kernel
theorem dX9_rank_42 : decode (mC M_X9_rank) 42 = .ok (.iinc 2 1, 3) := by decide +kernel
theorem dX9_rank_45 : decode (mC M_X9_rank) 45 = .ok (.iinc 5 1, 3) := by decide +kernel
theorem dX9_rank_48 : decode (mC M_X9_rank) 48 = .ok (.goto (-30), 3) := by decide +kernel
theorem dX9_rank_51 : decode (mC M_X9_rank) 51 = .ok (.iload_n 2, 1) := by decide +kernel
theorem dX9_rank_52 : decode (mC M_X9_rank) 52 = .ok (.ireturn, 1) := by decide +kernel
theorem dX9_wear_0 : decode (mC M_X9_wear) 0 = .ok (.aload_n 0, 1) := by decide +kernel
theorem dX9_wear_1 : decode (mC M_X9_wear) 1 = .ok (.iload_n 1, 1) := by decide +kernel
theorem dX9_wear_2 : decode (mC M_X9_wear) 2 = .ok (.invokevirtual 222, 3) := by decide +kernel
theorem dX9_wear_5 : decode (mC M_X9_wear) 5 = .ok (.getfield 231, 3) := by decide +kernel
theorem dX9_wear_8 : decode (mC M_X9_wear) 8 = .ok (.ireturn, 1) := by decide +kernel
theorem dX9_cueOf_0 : decode (mC M_X9_cueOf) 0 = .ok (.iload_n 1, 1) := by decide +kernel
theorem dX9_cueOf_1 : decode (mC M_X9_cueOf) 1 = .ok (.invokestatic 79, 3) := by decide +kernel
theorem dX9_cueOf_4 : decode (mC M_X9_cueOf) 4 = .ok (.iconst 0, 1) := by decide +kernel
theorem dX9_cueOf_5 : decode (mC M_X9_cueOf) 5 = .ok (.istore_n 2, 1) := by decide +kernel
theorem dX9_cueOf_6 : decode (mC M_X9_cueOf) 6 = .ok (.iload_n 2, 1) := by decide +kernel
theorem dX9_cueOf_7 : decode (mC M_X9_cueOf) 7 = .ok (.aload_n 0, 1) := by decide +kernel
theorem dX9_cueOf_8 : decode (mC M_X9_cueOf) 8 = .ok (.getfield 17, 3) := by decide +kernel
theorem dX9_cueOf_11 : decode (mC M_X9_cueOf) 11 = .ok (.arraylength, 1) := by decide +kernel
theorem dX9_cueOf_12 : decode (mC M_X9_cueOf) 12 = .ok (.if_icmp .ge 33, 3) := by decide +kernel
theorem dX9_cueOf_15 : decode (mC M_X9_cueOf) 15 = .ok (.aload_n 0, 1) := by decide +kernel
theorem dX9_cueOf_16 : decode (mC M_X9_cueOf) 16 = .ok (.getfield 17, 3) := by decide +kernel
theorem dX9_cueOf_19 : decode (mC M_X9_cueOf) 19 = .ok (.iload_n 2, 1) := by decide +kernel
theorem dX9_cueOf_20 : decode (mC M_X9_cueOf) 20 = .ok (.aaload, 1) := by decide +kernel
theorem dX9_cueOf_21 : decode (mC M_X9_cueOf) 21 = .ok (.ifnull 18, 3) := by decide +kernel
theorem dX9_cueOf_24 : decode (mC M_X9_cueOf) 24 = .ok (.aload_n 0, 1) := by decide +kernel
theorem dX9_cueOf_25 : decode (mC M_X9_cueOf) 25 = .ok (.getfield 17, 3) := by decide +kernel
theorem dX9_cueOf_28 : decode (mC M_X9_cueOf) 28 = .ok (.iload_n 2, 1) := by decide +kernel
theorem dX9_cueOf_29 : decode (mC M_X9_cueOf) 29 = .ok (.aaload, 1) := by decide +kernel
theorem dX9_cueOf_30 : decode (mC M_X9_cueOf) 30 = .ok (.iload_n 1, 1) := by decide +kernel
theorem dX9_cueOf_31 : decode (mC M_X9_cueOf) 31 = .ok (.invokevirtual 292, 3) := by decide +kernel
theorem dX9_cueOf_34 : decode (mC M_X9_cueOf) 34 = .ok (.ifCond .eq 5, 3) := by decide +kernel
theorem dX9_cueOf_37 : decode (mC M_X9_cueOf) 37 = .ok (.iload_n 2, 1) := by decide +kernel
theorem dX9_cueOf_38 : decode (mC M_X9_cueOf) 38 = .ok (.ireturn, 1) := by decide +kernel
theorem dX9_cueOf_39 : decode (mC M_X9_cueOf) 39 = .ok (.iinc 2 1, 3) := by decide +kernel
theorem dX9_cueOf_42 : decode (mC M_X9_cueOf) 42 = .ok (.goto (-36), 3) := by decide +kernel
theorem dX9_cueOf_45 : decode (mC M_X9_cueOf) 45 = .ok (.iconst (-1), 1) := by decide +kernel
theorem dX9_cueOf_46 : decode (mC M_X9_cueOf) 46 = .ok (.ireturn, 1) := by decide +kernel
theorem dX9_force_0 : decode (mC M_X9_force) 0 = .ok (.iload_n 1, 1) := by decide +kernel
theorem dX9_force_1 : decode (mC M_X9_force) 1 = .ok (.invokestatic 79, 3) := by decide +kernel
theorem dX9_force_4 : decode (mC M_X9_force) 4 = .ok (.iload_n 2, 1) := by decide +kernel
theorem dX9_force_5 : decode (mC M_X9_force) 5 = .ok (.iconst 1, 1) := by decide +kernel
theorem dX9_force_6 : decode (mC M_X9_force) 6 = .ok (.bipush 40, 2) := by decide +kernel
theorem dX9_force_8 : decode (mC M_X9_force) 8 = .ok (.invokestatic 71, 3) := by decide +kernel
theorem dX9_force_11 : decode (mC M_X9_force) 11 = .ok (.aload_n 0, 1) := by decide +kernel
theorem dX9_force_12 : decode (mC M_X9_force) 12 = .ok (.iload_n 1, 1) := by decide +kernel
theorem dX9_force_13 : decode (mC M_X9_force) 13 = .ok (.invokevirtual 191, 3) := by decide +kernel
theorem dX9_force_16 : decode (mC M_X9_force) 16 = .ok (.iload_n 2, 1) := by decide +kernel
theorem dX9_force_17 : decode (mC M_X9_force) 17 = .ok (.invokestatic 198, 3) := by decide +kernel
theorem dX9_force_20 : decode (mC M_X9_force) 20 = .ok (.ireturn, 1) := by decide +kernel
theorem dX9_requireRange_0 : decode (mC M_X9_requireRange) 0 = .ok (.iload_n 0, 1) := by decide +kernel
theorem dX9_requireRange_1 : decode (mC M_X9_requireRange) 1 = .ok (.iload_n 1, 1) := by decide +kernel
theorem dX9_requireRange_2 : decode (mC M_X9_requireRange) 2 = .ok (.if_icmp .lt 8, 3) := by decide +kernel
theorem dX9_requireRange_5 : decode (mC M_X9_requireRange) 5 = .ok (.iload_n 0, 1) := by decide +kernel
theorem dX9_requireRange_6 : decode (mC M_X9_requireRange) 6 = .ok (.iload_n 2, 1) := by decide +kernel
theorem dX9_requireRange_7 : decode (mC M_X9_requireRange) 7 = .ok (.if_icmp .le 14, 3) := by decide +kernel
theorem dX9_requireRange_10 : decode (mC M_X9_requireRange) 10 = .ok (.new 140, 3) := by decide +kernel
theorem dX9_requireRange_13 : decode (mC M_X9_requireRange) 13 = .ok (.dup, 1) := by decide +kernel
theorem dX9_requireRange_14 : decode (mC M_X9_requireRange) 14 = .ok (.ldc_w 295, 3) := by decide +kernel
theorem dX9_requireRange_17 : decode (mC M_X9_requireRange) 17 = .ok (.invokespecial 144, 3) := by decide +kernel
theorem dX9_requireRange_20 : decode (mC M_X9_requireRange) 20 = .ok (.athrow, 1) := by decide +kernel
theorem dX9_requireRange_21 : decode (mC M_X9_requireRange) 21 = .ok (.return_, 1) := by decide +kernel
theorem dX9_requireCustomer_0 : decode (mC M_X9_requireCustomer) 0 = .ok (.iload_n 0, 1) := by decide +kernel
theorem dX9_requireCustomer_1 : decode (mC M_X9_requireCustomer) 1 = .ok (.ifCond .lt 9, 3) := by decide +kernel
theorem dX9_requireCustomer_4 : decode (mC M_X9_requireCustomer) 4 = .ok (.iload_n 0, 1) := by decide +kernel
theorem dX9_requireCustomer_5 : decode (mC M_X9_requireCustomer) 5 = .ok (.bipush 8, 2) := by decide +kernel
theorem dX9_requireCustomer_7 : decode (mC M_X9_requireCustomer) 7 = .ok (.if_icmp .lt 14, 3) := by decide +kernel
theorem dX9_requireCustomer_10 : decode (mC M_X9_requireCustomer) 10 = .ok (.new 268, 3) := by decide +kernel
theorem dX9_requireCustomer_13 : decode (mC M_X9_requireCustomer) 13 = .ok (.dup, 1) := by decide +kernel
theorem dX9_requireCustomer_14 : decode (mC M_X9_requireCustomer) 14 = .ok (.ldc_w 297, 3) := by decide +kernel
theorem dX9_requireCustomer_17 : decode (mC M_X9_requireCustomer) 17 = .ok (.invokespecial 272, 3) := by decide +kernel
theorem dX9_requireCustomer_20 : decode (mC M_X9_requireCustomer) 20 = .ok (.athrow, 1) := by decide +kernel
theorem dX9_requireCustomer_21 : decode (mC M_X9_requireCustomer) 21 = .ok (.return_, 1) := by decide +kernel
theorem dX9_tableAt_0 : decode (mC M_X9_tableAt) 0 = .ok (.iload_n 1, 1) := by decide +kernel
theorem dX9_tableAt_1 : decode (mC M_X9_tableAt) 1 = .ok (.ifCond .lt 21, 3) := by decide +kernel
theorem dX9_tableAt_4 : decode (mC M_X9_tableAt) 4 = .ok (.iload_n 1, 1) := by decide +kernel
theorem dX9_tableAt_5 : decode (mC M_X9_tableAt) 5 = .ok (.aload_n 0, 1) := by decide +kernel
theorem dX9_tableAt_6 : decode (mC M_X9_tableAt) 6 = .ok (.getfield 11, 3) := by decide +kernel
theorem dX9_tableAt_9 : decode (mC M_X9_tableAt) 9 = .ok (.arraylength, 1) := by decide +kernel
theorem dX9_tableAt_10 : decode (mC M_X9_tableAt) 10 = .ok (.if_icmp .ge 12, 3) := by decide +kernel
theorem dX9_tableAt_13 : decode (mC M_X9_tableAt) 13 = .ok (.aload_n 0, 1) := by decide +kernel
theorem dX9_tableAt_14 : decode (mC M_X9_tableAt) 14 = .ok (.getfield 11, 3) := by decide +kernel
theorem dX9_tableAt_17 : decode (mC M_X9_tableAt) 17 = .ok (.iload_n 1, 1) := by decide +kernel
theorem dX9_tableAt_18 : decode (mC M_X9_tableAt) 18 = .ok (.aaload, 1) := by decide +kernel
theorem dX9_tableAt_19 : decode (mC M_X9_tableAt) 19 = .ok (.goto 4, 3) := by decide +kernel
theorem dX9_tableAt_22 : decode (mC M_X9_tableAt) 22 = .ok (.aconst_null, 1) := by decide +kernel
theorem dX9_tableAt_23 : decode (mC M_X9_tableAt) 23 = .ok (.astore_n 2, 1) := by decide +kernel
theorem dX9_tableAt_24 : decode (mC M_X9_tableAt) 24 = .ok (.aload_n 2, 1) := by decide +kernel
theorem dX9_tableAt_25 : decode (mC M_X9_tableAt) 25 = .ok (.ifnonnull 14, 3) := by decide +kernel
theorem dX9_tableAt_28 : decode (mC M_X9_tableAt) 28 = .ok (.new 268, 3) := by decide +kernel
theorem dX9_tableAt_31 : decode (mC M_X9_tableAt) 31 = .ok (.dup, 1) := by decide +kernel
theorem dX9_tableAt_32 : decode (mC M_X9_tableAt) 32 = .ok (.ldc_w 299, 3) := by decide +kernel
theorem dX9_tableAt_35 : decode (mC M_X9_tableAt) 35 = .ok (.invokespecial 272, 3) := by decide +kernel
theorem dX9_tableAt_38 : decode (mC M_X9_tableAt) 38 = .ok (.athrow, 1) := by decide +kernel
theorem dX9_tableAt_39 : decode (mC M_X9_tableAt) 39 = .ok (.aload_n 2, 1) := by decide +kernel
theorem dX9_tableAt_40 : decode (mC M_X9_tableAt) 40 = .ok (.areturn, 1) := by decide +kernel
theorem dX9_cueAt_0 : decode (mC M_X9_cueAt) 0 = .ok (.iload_n 1, 1) := by decide +kernel
theorem dX9_cueAt_1 : decode (mC M_X9_cueAt) 1 = .ok (.ifCond .lt 21, 3) := by decide +kernel
theorem dX9_cueAt_4 : decode (mC M_X9_cueAt) 4 = .ok (.iload_n 1, 1) := by decide +kernel
theorem dX9_cueAt_5 : decode (mC M_X9_cueAt) 5 = .ok (.aload_n 0, 1) := by decide +kernel
theorem dX9_cueAt_6 : decode (mC M_X9_cueAt) 6 = .ok (.getfield 17, 3) := by decide +kernel
theorem dX9_cueAt_9 : decode (mC M_X9_cueAt) 9 = .ok (.arraylength, 1) := by decide +kernel
theorem dX9_cueAt_10 : decode (mC M_X9_cueAt) 10 = .ok (.if_icmp .ge 12, 3) := by decide +kernel
theorem dX9_cueAt_13 : decode (mC M_X9_cueAt) 13 = .ok (.aload_n 0, 1) := by decide +kernel
theorem dX9_cueAt_14 : decode (mC M_X9_cueAt) 14 = .ok (.getfield 17, 3) := by decide +kernel
theorem dX9_cueAt_17 : decode (mC M_X9_cueAt) 17 = .ok (.iload_n 1, 1) := by decide +kernel
theorem dX9_cueAt_18 : decode (mC M_X9_cueAt) 18 = .ok (.aaload, 1) := by decide +kernel
theorem dX9_cueAt_19 : decode (mC M_X9_cueAt) 19 = .ok (.goto 4, 3) := by decide +kernel
theorem dX9_cueAt_22 : decode (mC M_X9_cueAt) 22 = .ok (.aconst_null, 1) := by decide +kernel
theorem dX9_cueAt_23 : decode (mC M_X9_cueAt) 23 = .ok (.astore_n 2, 1) := by decide +kernel
theorem dX9_cueAt_24 : decode (mC M_X9_cueAt) 24 = .ok (.aload_n 2, 1) := by decide +kernel
theorem dX9_cueAt_25 : decode (mC M_X9_cueAt) 25 = .ok (.ifnonnull 14, 3) := by decide +kernel
theorem dX9_cueAt_28 : decode (mC M_X9_cueAt) 28 = .ok (.new 268, 3) := by decide +kernel
theorem dX9_cueAt_31 : decode (mC M_X9_cueAt) 31 = .ok (.dup, 1) := by decide +kernel
theorem dX9_cueAt_32 : decode (mC M_X9_cueAt) 32 = .ok (.ldc_w 301, 3) := by decide +kernel
theorem dX9_cueAt_35 : decode (mC M_X9_cueAt) 35 = .ok (.invokespecial 272, 3) := by decide +kernel
theorem dX9_cueAt_38 : decode (mC M_X9_cueAt) 38 = .ok (.athrow, 1) := by decide +kernel
theorem dX9_cueAt_39 : decode (mC M_X9_cueAt) 39 = .ok (.aload_n 2, 1) := by decide +kernel
theorem dX9_cueAt_40 : decode (mC M_X9_cueAt) 40 = .ok (.areturn, 1) := by decide +kernel
theorem dX9_frameAt_0 : decode (mC M_X9_frameAt) 0 = .ok (.iload_n 1, 1) := by decide +kernel
theorem dX9_frameAt_1 : decode (mC M_X9_frameAt) 1 = .ok (.ifCond .lt 29, 3) := by decide +kernel
theorem dX9_frameAt_4 : decode (mC M_X9_frameAt) 4 = .ok (.iload_n 1, 1) := by decide +kernel
theorem dX9_frameAt_5 : decode (mC M_X9_frameAt) 5 = .ok (.aload_n 0, 1) := by decide +kernel
theorem dX9_frameAt_6 : decode (mC M_X9_frameAt) 6 = .ok (.getfield 145, 3) := by decide +kernel
theorem dX9_frameAt_9 : decode (mC M_X9_frameAt) 9 = .ok (.if_icmp .ge 21, 3) := by decide +kernel
theorem dX9_frameAt_12 : decode (mC M_X9_frameAt) 12 = .ok (.iload_n 1, 1) := by decide +kernel
theorem dX9_frameAt_13 : decode (mC M_X9_frameAt) 13 = .ok (.aload_n 0, 1) := by decide +kernel
theorem dX9_frameAt_14 : decode (mC M_X9_frameAt) 14 = .ok (.getfield 23, 3) := by decide +kernel
theorem dX9_frameAt_17 : decode (mC M_X9_frameAt) 17 = .ok (.arraylength, 1) := by decide +kernel
theorem dX9_frameAt_18 : decode (mC M_X9_frameAt) 18 = .ok (.if_icmp .ge 12, 3) := by decide +kernel
theorem dX9_frameAt_21 : decode (mC M_X9_frameAt) 21 = .ok (.aload_n 0, 1) := by decide +kernel
theorem dX9_frameAt_22 : decode (mC M_X9_frameAt) 22 = .ok (.getfield 23, 3) := by decide +kernel
theorem dX9_frameAt_25 : decode (mC M_X9_frameAt) 25 = .ok (.iload_n 1, 1) := by decide +kernel
theorem dX9_frameAt_26 : decode (mC M_X9_frameAt) 26 = .ok (.aaload, 1) := by decide +kernel
theorem dX9_frameAt_27 : decode (mC M_X9_frameAt) 27 = .ok (.goto 4, 3) := by decide +kernel
theorem dX9_frameAt_30 : decode (mC M_X9_frameAt) 30 = .ok (.aconst_null, 1) := by decide +kernel
theorem dX9_frameAt_31 : decode (mC M_X9_frameAt) 31 = .ok (.astore_n 2, 1) := by decide +kernel
theorem dX9_frameAt_32 : decode (mC M_X9_frameAt) 32 = .ok (.aload_n 2, 1) := by decide +kernel
theorem dX9_frameAt_33 : decode (mC M_X9_frameAt) 33 = .ok (.ifnonnull 14, 3) := by decide +kernel
theorem dX9_frameAt_36 : decode (mC M_X9_frameAt) 36 = .ok (.new 268, 3) := by decide +kernel
theorem dX9_frameAt_39 : decode (mC M_X9_frameAt) 39 = .ok (.dup, 1) := by decide +kernel
theorem dX9_frameAt_40 : decode (mC M_X9_frameAt) 40 = .ok (.ldc_w 303, 3) := by decide +kernel
theorem dX9_frameAt_43 : decode (mC M_X9_frameAt) 43 = .ok (.invokespecial 272, 3) := by decide +kernel
theorem dX9_frameAt_46 : decode (mC M_X9_frameAt) 46 = .ok (.athrow, 1) := by decide +kernel
theorem dX9_frameAt_47 : decode (mC M_X9_frameAt) 47 = .ok (.aload_n 2, 1) := by decide +kernel
theorem dX9_frameAt_48 : decode (mC M_X9_frameAt) 48 = .ok (.areturn, 1) := by decide +kernel
theorem dX9_requirePlace_0 : decode (mC M_X9_requirePlace) 0 = .ok (.aload_n 0, 1) := by decide +kernel
theorem dX9_requirePlace_1 : decode (mC M_X9_requirePlace) 1 = .ok (.getfield 83, 3) := by decide +kernel
theorem dX9_requirePlace_4 : decode (mC M_X9_requirePlace) 4 = .ok (.ifCond .eq 10, 3) := by decide +kernel
theorem dX9_requirePlace_7 : decode (mC M_X9_requirePlace) 7 = .ok (.aload_n 0, 1) := by decide +kernel
theorem dX9_requirePlace_8 : decode (mC M_X9_requirePlace) 8 = .ok (.getfield 257, 3) := by decide +kernel
theorem dX9_requirePlace_11 : decode (mC M_X9_requirePlace) 11 = .ok (.ifnull 14, 3) := by decide +kernel
theorem dX9_requirePlace_14 : decode (mC M_X9_requirePlace) 14 = .ok (.new 95, 3) := by decide +kernel
theorem dX9_requirePlace_17 : decode (mC M_X9_requirePlace) 17 = .ok (.dup, 1) := by decide +kernel
theorem dX9_requirePlace_18 : decode (mC M_X9_requirePlace) 18 = .ok (.ldc_w 305, 3) := by decide +kernel
theorem dX9_requirePlace_21 : decode (mC M_X9_requirePlace) 21 = .ok (.invokespecial 99, 3) := by decide +kernel
theorem dX9_requirePlace_24 : decode (mC M_X9_requirePlace) 24 = .ok (.athrow, 1) := by decide +kernel
theorem dX9_requirePlace_25 : decode (mC M_X9_requirePlace) 25 = .ok (.iload_n 1, 1) := by decide +kernel
theorem dX9_requirePlace_26 : decode (mC M_X9_requirePlace) 26 = .ok (.ifCond .ne 30, 3) := by decide +kernel
theorem dX9_requirePlace_29 : decode (mC M_X9_requirePlace) 29 = .ok (.aload_n 0, 1) := by decide +kernel
theorem dX9_requirePlace_30 : decode (mC M_X9_requirePlace) 30 = .ok (.iload_n 2, 1) := by decide +kernel
theorem dX9_requirePlace_31 : decode (mC M_X9_requirePlace) 31 = .ok (.invokevirtual 307, 3) := by decide +kernel
theorem dX9_requirePlace_34 : decode (mC M_X9_requirePlace) 34 = .ok (.ifCond .ne 22, 3) := by decide +kernel
theorem dX9_requirePlace_37 : decode (mC M_X9_requirePlace) 37 = .ok (.aload_n 0, 1) := by decide +kernel
theorem dX9_requirePlace_38 : decode (mC M_X9_requirePlace) 38 = .ok (.iload_n 3, 1) := by decide +kernel
theorem dX9_requirePlace_39 : decode (mC M_X9_requirePlace) 39 = .ok (.invokevirtual 307, 3) := by decide +kernel
theorem dX9_requirePlace_42 : decode (mC M_X9_requirePlace) 42 = .ok (.ifCond .ne 14, 3) := by decide +kernel
theorem dX9_requirePlace_45 : decode (mC M_X9_requirePlace) 45 = .ok (.new 95, 3) := by decide +kernel
theorem dX9_requirePlace_48 : decode (mC M_X9_requirePlace) 48 = .ok (.dup, 1) := by decide +kernel
theorem dX9_requirePlace_49 : decode (mC M_X9_requirePlace) 49 = .ok (.ldc_w 310, 3) := by decide +kernel
theorem dX9_requirePlace_52 : decode (mC M_X9_requirePlace) 52 = .ok (.invokespecial 99, 3) := by decide +kernel
theorem dX9_requirePlace_55 : decode (mC M_X9_requirePlace) 55 = .ok (.athrow, 1) := by decide +kernel
theorem dX9_requirePlace_56 : decode (mC M_X9_requirePlace) 56 = .ok (.return_, 1) := by decide +kernel
theorem dX9_rentsAny_0 : decode (mC M_X9_rentsAny) 0 = .ok (.aload_n 0, 1) := by decide +kernel
theorem dX9_rentsAny_1 : decode (mC M_X9_rentsAny) 1 = .ok (.getfield 11, 3) := by decide +kernel
theorem dX9_rentsAny_4 : decode (mC M_X9_rentsAny) 4 = .ok (.astore_n 2, 1) := by decide +kernel
theorem dX9_rentsAny_5 : decode (mC M_X9_rentsAny) 5 = .ok (.aload_n 2, 1) := by decide +kernel
theorem dX9_rentsAny_6 : decode (mC M_X9_rentsAny) 6 = .ok (.arraylength, 1) := by decide +kernel
theorem dX9_rentsAny_7 : decode (mC M_X9_rentsAny) 7 = .ok (.istore_n 3, 1) := by decide +kernel
theorem dX9_rentsAny_8 : decode (mC M_X9_rentsAny) 8 = .ok (.iconst 0, 1) := by decide +kernel
theorem dX9_rentsAny_9 : decode (mC M_X9_rentsAny) 9 = .ok (.istore 4, 2) := by decide +kernel
theorem dX9_rentsAny_11 : decode (mC M_X9_rentsAny) 11 = .ok (.iload 4, 2) := by decide +kernel
theorem dX9_rentsAny_13 : decode (mC M_X9_rentsAny) 13 = .ok (.iload_n 3, 1) := by decide +kernel
theorem dX9_rentsAny_14 : decode (mC M_X9_rentsAny) 14 = .ok (.if_icmp .ge 31, 3) := by decide +kernel
theorem dX9_rentsAny_17 : decode (mC M_X9_rentsAny) 17 = .ok (.aload_n 2, 1) := by decide +kernel
theorem dX9_rentsAny_18 : decode (mC M_X9_rentsAny) 18 = .ok (.iload 4, 2) := by decide +kernel
theorem dX9_rentsAny_20 : decode (mC M_X9_rentsAny) 20 = .ok (.aaload, 1) := by decide +kernel
theorem dX9_rentsAny_21 : decode (mC M_X9_rentsAny) 21 = .ok (.astore 5, 2) := by decide +kernel
theorem dX9_rentsAny_23 : decode (mC M_X9_rentsAny) 23 = .ok (.aload 5, 2) := by decide +kernel
theorem dX9_rentsAny_25 : decode (mC M_X9_rentsAny) 25 = .ok (.ifnull 14, 3) := by decide +kernel
theorem dX9_rentsAny_28 : decode (mC M_X9_rentsAny) 28 = .ok (.aload 5, 2) := by decide +kernel
theorem dX9_rentsAny_30 : decode (mC M_X9_rentsAny) 30 = .ok (.iload_n 1, 1) := by decide +kernel
theorem dX9_rentsAny_31 : decode (mC M_X9_rentsAny) 31 = .ok (.invokevirtual 307, 3) := by decide +kernel
theorem dX9_rentsAny_34 : decode (mC M_X9_rentsAny) 34 = .ok (.ifCond .eq 5, 3) := by decide +kernel
theorem dX9_rentsAny_37 : decode (mC M_X9_rentsAny) 37 = .ok (.iconst 1, 1) := by decide +kernel
theorem dX9_rentsAny_38 : decode (mC M_X9_rentsAny) 38 = .ok (.ireturn, 1) := by decide +kernel
theorem dX9_rentsAny_39 : decode (mC M_X9_rentsAny) 39 = .ok (.iinc 4 1, 3) := by decide +kernel
theorem dX9_rentsAny_42 : decode (mC M_X9_rentsAny) 42 = .ok (.goto (-31), 3) := by decide +kernel
theorem dX9_rentsAny_45 : decode (mC M_X9_rentsAny) 45 = .ok (.iconst 0, 1) := by decide +kernel
theorem dX9_rentsAny_46 : decode (mC M_X9_rentsAny) 46 = .ok (.ireturn, 1) := by decide +kernel
theorem dX9_rentedTables_0 : decode (mC M_X9_rentedTables) 0 = .ok (.iconst 0, 1) := by decide +kernel
theorem dX9_rentedTables_1 : decode (mC M_X9_rentedTables) 1 = .ok (.istore_n 1, 1) := by decide +kernel
theorem dX9_rentedTables_2 : decode (mC M_X9_rentedTables) 2 = .ok (.aload_n 0, 1) := by decide +kernel
theorem dX9_rentedTables_3 : decode (mC M_X9_rentedTables) 3 = .ok (.getfield 11, 3) := by decide +kernel
theorem dX9_rentedTables_6 : decode (mC M_X9_rentedTables) 6 = .ok (.astore_n 2, 1) := by decide +kernel
theorem dX9_rentedTables_7 : decode (mC M_X9_rentedTables) 7 = .ok (.aload_n 2, 1) := by decide +kernel
theorem dX9_rentedTables_8 : decode (mC M_X9_rentedTables) 8 = .ok (.arraylength, 1) := by decide +kernel
theorem dX9_rentedTables_9 : decode (mC M_X9_rentedTables) 9 = .ok (.istore_n 3, 1) := by decide +kernel
theorem dX9_rentedTables_10 : decode (mC M_X9_rentedTables) 10 = .ok (.iconst 0, 1) := by decide +kernel
theorem dX9_rentedTables_11 : decode (mC M_X9_rentedTables) 11 = .ok (.istore 4, 2) := by decide +kernel
theorem dX9_rentedTables_13 : decode (mC M_X9_rentedTables) 13 = .ok (.iload 4, 2) := by decide +kernel
theorem dX9_rentedTables_15 : decode (mC M_X9_rentedTables) 15 = .ok (.iload_n 3, 1) := by decide +kernel
theorem dX9_rentedTables_16 : decode (mC M_X9_rentedTables) 16 = .ok (.if_icmp .ge 31, 3) := by decide +kernel
theorem dX9_rentedTables_19 : decode (mC M_X9_rentedTables) 19 = .ok (.aload_n 2, 1) := by decide +kernel
theorem dX9_rentedTables_20 : decode (mC M_X9_rentedTables) 20 = .ok (.iload 4, 2) := by decide +kernel
theorem dX9_rentedTables_22 : decode (mC M_X9_rentedTables) 22 = .ok (.aaload, 1) := by decide +kernel
theorem dX9_rentedTables_23 : decode (mC M_X9_rentedTables) 23 = .ok (.astore 5, 2) := by decide +kernel
theorem dX9_rentedTables_25 : decode (mC M_X9_rentedTables) 25 = .ok (.aload 5, 2) := by decide +kernel
theorem dX9_rentedTables_27 : decode (mC M_X9_rentedTables) 27 = .ok (.ifnull 14, 3) := by decide +kernel
theorem dX9_rentedTables_30 : decode (mC M_X9_rentedTables) 30 = .ok (.aload 5, 2) := by decide +kernel
theorem dX9_rentedTables_32 : decode (mC M_X9_rentedTables) 32 = .ok (.getfield 87, 3) := by decide +kernel
theorem dX9_rentedTables_35 : decode (mC M_X9_rentedTables) 35 = .ok (.ifnull 6, 3) := by decide +kernel
theorem dX9_rentedTables_38 : decode (mC M_X9_rentedTables) 38 = .ok (.iinc 1 1, 3) := by decide +kernel
theorem dX9_rentedTables_41 : decode (mC M_X9_rentedTables) 41 = .ok (.iinc 4 1, 3) := by decide +kernel
theorem dX9_rentedTables_44 : decode (mC M_X9_rentedTables) 44 = .ok (.goto (-31), 3) := by decide +kernel
theorem dX9_rentedTables_47 : decode (mC M_X9_rentedTables) 47 = .ok (.iload_n 1, 1) := by decide +kernel
theorem dX9_rentedTables_48 : decode (mC M_X9_rentedTables) 48 = .ok (.ireturn, 1) := by decide +kernel
theorem dX9_openTables_0 : decode (mC M_X9_openTables) 0 = .ok (.iconst 0, 1) := by decide +kernel
theorem dX9_openTables_1 : decode (mC M_X9_openTables) 1 = .ok (.istore_n 1, 1) := by decide +kernel
theorem dX9_openTables_2 : decode (mC M_X9_openTables) 2 = .ok (.aload_n 0, 1) := by decide +kernel
theorem dX9_openTables_3 : decode (mC M_X9_openTables) 3 = .ok (.getfield 11, 3) := by decide +kernel
theorem dX9_openTables_6 : decode (mC M_X9_openTables) 6 = .ok (.astore_n 2, 1) := by decide +kernel
theorem dX9_openTables_7 : decode (mC M_X9_openTables) 7 = .ok (.aload_n 2, 1) := by decide +kernel
theorem dX9_openTables_8 : decode (mC M_X9_openTables) 8 = .ok (.arraylength, 1) := by decide +kernel
theorem dX9_openTables_9 : decode (mC M_X9_openTables) 9 = .ok (.istore_n 3, 1) := by decide +kernel
theorem dX9_openTables_10 : decode (mC M_X9_openTables) 10 = .ok (.iconst 0, 1) := by decide +kernel
theorem dX9_openTables_11 : decode (mC M_X9_openTables) 11 = .ok (.istore 4, 2) := by decide +kernel
theorem dX9_openTables_13 : decode (mC M_X9_openTables) 13 = .ok (.iload 4, 2) := by decide +kernel
theorem dX9_openTables_15 : decode (mC M_X9_openTables) 15 = .ok (.iload_n 3, 1) := by decide +kernel
theorem dX9_openTables_16 : decode (mC M_X9_openTables) 16 = .ok (.if_icmp .ge 31, 3) := by decide +kernel
theorem dX9_openTables_19 : decode (mC M_X9_openTables) 19 = .ok (.aload_n 2, 1) := by decide +kernel
theorem dX9_openTables_20 : decode (mC M_X9_openTables) 20 = .ok (.iload 4, 2) := by decide +kernel
theorem dX9_openTables_22 : decode (mC M_X9_openTables) 22 = .ok (.aaload, 1) := by decide +kernel
theorem dX9_openTables_23 : decode (mC M_X9_openTables) 23 = .ok (.astore 5, 2) := by decide +kernel
theorem dX9_openTables_25 : decode (mC M_X9_openTables) 25 = .ok (.aload 5, 2) := by decide +kernel
theorem dX9_openTables_27 : decode (mC M_X9_openTables) 27 = .ok (.ifnull 14, 3) := by decide +kernel
theorem dX9_openTables_30 : decode (mC M_X9_openTables) 30 = .ok (.aload 5, 2) := by decide +kernel
theorem dX9_openTables_32 : decode (mC M_X9_openTables) 32 = .ok (.getfield 83, 3) := by decide +kernel
theorem dX9_openTables_35 : decode (mC M_X9_openTables) 35 = .ok (.ifCond .eq 6, 3) := by decide +kernel
theorem dX9_openTables_38 : decode (mC M_X9_openTables) 38 = .ok (.iinc 1 1, 3) := by decide +kernel
theorem dX9_openTables_41 : decode (mC M_X9_openTables) 41 = .ok (.iinc 4 1, 3) := by decide +kernel
theorem dX9_openTables_44 : decode (mC M_X9_openTables) 44 = .ok (.goto (-31), 3) := by decide +kernel
theorem dX9_openTables_47 : decode (mC M_X9_openTables) 47 = .ok (.iload_n 1, 1) := by decide +kernel
theorem dX9_openTables_48 : decode (mC M_X9_openTables) 48 = .ok (.ireturn, 1) := by decide +kernel
theorem dX9_endRental_0 : decode (mC M_X9_endRental) 0 = .ok (.aload_n 1, 1) := by decide +kernel
theorem dX9_endRental_1 : decode (mC M_X9_endRental) 1 = .ok (.getfield 87, 3) := by decide +kernel
theorem dX9_endRental_4 : decode (mC M_X9_endRental) 4 = .ok (.astore_n 2, 1) := by decide +kernel
theorem dX9_endRental_5 : decode (mC M_X9_endRental) 5 = .ok (.aload_n 2, 1) := by decide +kernel
theorem dX9_endRental_6 : decode (mC M_X9_endRental) 6 = .ok (.ifnonnull 5, 3) := by decide +kernel
theorem dX9_endRental_9 : decode (mC M_X9_endRental) 9 = .ok (.iconst 0, 1) := by decide +kernel
theorem dX9_endRental_10 : decode (mC M_X9_endRental) 10 = .ok (.ireturn, 1) := by decide +kernel
theorem dX9_endRental_11 : decode (mC M_X9_endRental) 11 = .ok (.aload_n 2, 1) := by decide +kernel
theorem dX9_endRental_12 : decode (mC M_X9_endRental) 12 = .ok (.aload_n 0, 1) := by decide +kernel
theorem dX9_endRental_13 : decode (mC M_X9_endRental) 13 = .ok (.getfield 102, 3) := by decide +kernel
theorem dX9_endRental_16 : decode (mC M_X9_endRental) 16 = .ok (.aload_n 0, 1) := by decide +kernel
theorem dX9_endRental_17 : decode (mC M_X9_endRental) 17 = .ok (.getfield 65, 3) := by decide +kernel
theorem dX9_endRental_20 : decode (mC M_X9_endRental) 20 = .ok (.invokevirtual 312, 3) := by decide +kernel
theorem dX9_endRental_23 : decode (mC M_X9_endRental) 23 = .ok (.aload_n 1, 1) := by decide +kernel
theorem dX9_endRental_24 : decode (mC M_X9_endRental) 24 = .ok (.aconst_null, 1) := by decide +kernel
theorem dX9_endRental_25 : decode (mC M_X9_endRental) 25 = .ok (.putfield 87, 3) := by decide +kernel
theorem dX9_endRental_28 : decode (mC M_X9_endRental) 28 = .ok (.aload_n 1, 1) := by decide +kernel
theorem dX9_endRental_29 : decode (mC M_X9_endRental) 29 = .ok (.getfield 107, 3) := by decide +kernel
theorem dX9_endRental_32 : decode (mC M_X9_endRental) 32 = .ok (.aload_n 0, 1) := by decide +kernel
theorem dX9_endRental_33 : decode (mC M_X9_endRental) 33 = .ok (.getfield 65, 3) := by decide +kernel
theorem dX9_endRental_36 : decode (mC M_X9_endRental) 36 = .ok (.invokestatic 314, 3) := by decide +kernel
theorem dX9_endRental_39 : decode (mC M_X9_endRental) 39 = .ok (.istore_n 3, 1) := by decide +kernel
theorem dX9_endRental_40 : decode (mC M_X9_endRental) 40 = .ok (.aload_n 0, 1) := by decide +kernel
theorem dX9_endRental_41 : decode (mC M_X9_endRental) 41 = .ok (.aload_n 2, 1) := by decide +kernel
theorem dX9_endRental_42 : decode (mC M_X9_endRental) 42 = .ok (.getfield 256, 3) := by decide +kernel
theorem dX9_endRental_45 : decode (mC M_X9_endRental) 45 = .ok (.iload_n 3, 1) := by decide +kernel
theorem dX9_endRental_46 : decode (mC M_X9_endRental) 46 = .ok (.invokevirtual 240, 3) := by decide +kernel
theorem dX9_endRental_49 : decode (mC M_X9_endRental) 49 = .ok (.aload_n 1, 1) := by decide +kernel
theorem dX9_endRental_50 : decode (mC M_X9_endRental) 50 = .ok (.getfield 257, 3) := by decide +kernel
theorem dX9_endRental_53 : decode (mC M_X9_endRental) 53 = .ok (.ifnull 18, 3) := by decide +kernel
theorem dX9_endRental_56 : decode (mC M_X9_endRental) 56 = .ok (.aload_n 1, 1) := by decide +kernel
theorem dX9_endRental_57 : decode (mC M_X9_endRental) 57 = .ok (.getfield 257, 3) := by decide +kernel
theorem dX9_endRental_60 : decode (mC M_X9_endRental) 60 = .ok (.getfield 173, 3) := by decide +kernel
theorem dX9_endRental_63 : decode (mC M_X9_endRental) 63 = .ok (.ifCond .ne 8, 3) := by decide +kernel
theorem dX9_endRental_66 : decode (mC M_X9_endRental) 66 = .ok (.aload_n 0, 1) := by decide +kernel
theorem dX9_endRental_67 : decode (mC M_X9_endRental) 67 = .ok (.aload_n 1, 1) := by decide +kernel
theorem dX9_endRental_68 : decode (mC M_X9_endRental) 68 = .ok (.invokevirtual 125, 3) := by decide +kernel
theorem dX9_endRental_71 : decode (mC M_X9_endRental) 71 = .ok (.iload_n 3, 1) := by decide +kernel
theorem dX9_endRental_72 : decode (mC M_X9_endRental) 72 = .ok (.ireturn, 1) := by decide +kernel
theorem dX9_billFor_0 : decode (mC M_X9_billFor) 0 = .ok (.iload_n 0, 1) := by decide +kernel
theorem dX9_billFor_1 : decode (mC M_X9_billFor) 1 = .ok (.bipush 9, 2) := by decide +kernel
theorem dX9_billFor_3 : decode (mC M_X9_billFor) 3 = .ok (.iadd, 1) := by decide +kernel
theorem dX9_billFor_4 : decode (mC M_X9_billFor) 4 = .ok (.bipush 10, 2) := by decide +kernel
theorem dX9_billFor_6 : decode (mC M_X9_billFor) 6 = .ok (.idiv, 1) := by decide +kernel
theorem dX9_billFor_7 : decode (mC M_X9_billFor) 7 = .ok (.iload_n 1, 1) := by decide +kernel
theorem dX9_billFor_8 : decode (mC M_X9_billFor) 8 = .ok (.imul, 1) := by decide +kernel
theorem dX9_billFor_9 : decode (mC M_X9_billFor) 9 = .ok (.ireturn, 1) := by decide +kernel
theorem dX9_addDebt_0 : decode (mC M_X9_addDebt) 0 = .ok (.iload_n 1, 1) := by decide +kernel
theorem dX9_addDebt_1 : decode (mC M_X9_addDebt) 1 = .ok (.ifCond .lt 22, 3) := by decide +kernel
theorem dX9_addDebt_4 : decode (mC M_X9_addDebt) 4 = .ok (.iload_n 1, 1) := by decide +kernel
theorem dX9_addDebt_5 : decode (mC M_X9_addDebt) 5 = .ok (.aload_n 0, 1) := by decide +kernel
theorem dX9_addDebt_6 : decode (mC M_X9_addDebt) 6 = .ok (.getfield 45, 3) := by decide +kernel
theorem dX9_addDebt_9 : decode (mC M_X9_addDebt) 9 = .ok (.arraylength, 1) := by decide +kernel
theorem dX9_addDebt_10 : decode (mC M_X9_addDebt) 10 = .ok (.if_icmp .ge 13, 3) := by decide +kernel
theorem dX9_addDebt_13 : decode (mC M_X9_addDebt) 13 = .ok (.aload_n 0, 1) := by decide +kernel
theorem dX9_addDebt_14 : decode (mC M_X9_addDebt) 14 = .ok (.getfield 45, 3) := by decide +kernel
theorem dX9_addDebt_17 : decode (mC M_X9_addDebt) 17 = .ok (.iload_n 1, 1) := by decide +kernel
theorem dX9_addDebt_18 : decode (mC M_X9_addDebt) 18 = .ok (.dup2, 1) := by decide +kernel
theorem dX9_addDebt_19 : decode (mC M_X9_addDebt) 19 = .ok (.iaload, 1) := by decide +kernel
theorem dX9_addDebt_20 : decode (mC M_X9_addDebt) 20 = .ok (.iload_n 2, 1) := by decide +kernel
theorem dX9_addDebt_21 : decode (mC M_X9_addDebt) 21 = .ok (.iadd, 1) := by decide +kernel
theorem dX9_addDebt_22 : decode (mC M_X9_addDebt) 22 = .ok (.iastore, 1) := by decide +kernel
theorem dX9_addDebt_23 : decode (mC M_X9_addDebt) 23 = .ok (.return_, 1) := by decide +kernel
theorem dX9_billsAnew_0 : decode (mC M_X9_billsAnew) 0 = .ok (.iconst 0, 1) := by decide +kernel
theorem dX9_billsAnew_1 : decode (mC M_X9_billsAnew) 1 = .ok (.istore_n 2, 1) := by decide +kernel
theorem dX9_billsAnew_2 : decode (mC M_X9_billsAnew) 2 = .ok (.iconst 0, 1) := by decide +kernel
theorem dX9_billsAnew_3 : decode (mC M_X9_billsAnew) 3 = .ok (.istore_n 3, 1) := by decide +kernel
theorem dX9_billsAnew_4 : decode (mC M_X9_billsAnew) 4 = .ok (.iload_n 3, 1) := by decide +kernel
theorem dX9_billsAnew_5 : decode (mC M_X9_billsAnew) 5 = .ok (.aload_n 0, 1) := by decide +kernel
theorem dX9_billsAnew_6 : decode (mC M_X9_billsAnew) 6 = .ok (.getfield 110, 3) := by decide +kernel
theorem dX9_billsAnew_9 : decode (mC M_X9_billsAnew) 9 = .ok (.if_icmp .ge 81, 3) := by decide +kernel
theorem dX9_billsAnew_12 : decode (mC M_X9_billsAnew) 12 = .ok (.iload_n 3, 1) := by decide +kernel
theorem dX9_billsAnew_13 : decode (mC M_X9_billsAnew) 13 = .ok (.aload_n 0, 1) := by decide +kernel
theorem dX9_billsAnew_14 : decode (mC M_X9_billsAnew) 14 = .ok (.getfield 29, 3) := by decide +kernel
theorem dX9_billsAnew_17 : decode (mC M_X9_billsAnew) 17 = .ok (.arraylength, 1) := by decide +kernel
theorem dX9_billsAnew_18 : decode (mC M_X9_billsAnew) 18 = .ok (.if_icmp .ge 72, 3) := by decide +kernel
theorem dX9_billsAnew_21 : decode (mC M_X9_billsAnew) 21 = .ok (.aload_n 0, 1) := by decide +kernel
theorem dX9_billsAnew_22 : decode (mC M_X9_billsAnew) 22 = .ok (.getfield 29, 3) := by decide +kernel
theorem dX9_billsAnew_25 : decode (mC M_X9_billsAnew) 25 = .ok (.iload_n 3, 1) := by decide +kernel
theorem dX9_billsAnew_26 : decode (mC M_X9_billsAnew) 26 = .ok (.aaload, 1) := by decide +kernel
theorem dX9_billsAnew_27 : decode (mC M_X9_billsAnew) 27 = .ok (.astore 4, 2) := by decide +kernel
theorem dX9_billsAnew_29 : decode (mC M_X9_billsAnew) 29 = .ok (.aload 4, 2) := by decide +kernel
theorem dX9_billsAnew_31 : decode (mC M_X9_billsAnew) 31 = .ok (.ifnull 53, 3) := by decide +kernel
theorem dX9_billsAnew_34 : decode (mC M_X9_billsAnew) 34 = .ok (.aload 4, 2) := by decide +kernel
theorem dX9_billsAnew_36 : decode (mC M_X9_billsAnew) 36 = .ok (.getfield 256, 3) := by decide +kernel
theorem dX9_billsAnew_39 : decode (mC M_X9_billsAnew) 39 = .ok (.iload_n 1, 1) := by decide +kernel
theorem dX9_billsAnew_40 : decode (mC M_X9_billsAnew) 40 = .ok (.if_icmp .ne 44, 3) := by decide +kernel
theorem dX9_billsAnew_43 : decode (mC M_X9_billsAnew) 43 = .ok (.aload 4, 2) := by decide +kernel
theorem dX9_billsAnew_45 : decode (mC M_X9_billsAnew) 45 = .ok (.invokevirtual 318, 3) := by decide +kernel
theorem dX9_billsAnew_48 : decode (mC M_X9_billsAnew) 48 = .ok (.ifCond .eq 36, 3) := by decide +kernel
theorem dX9_billsAnew_51 : decode (mC M_X9_billsAnew) 51 = .ok (.aload 4, 2) := by decide +kernel
theorem dX9_billsAnew_53 : decode (mC M_X9_billsAnew) 53 = .ok (.getfield 321, 3) := by decide +kernel
theorem dX9_billsAnew_56 : decode (mC M_X9_billsAnew) 56 = .ok (.aload 4, 2) := by decide +kernel
theorem dX9_billsAnew_58 : decode (mC M_X9_billsAnew) 58 = .ok (.getfield 324, 3) := by decide +kernel
theorem dX9_billsAnew_61 : decode (mC M_X9_billsAnew) 61 = .ok (.isub, 1) := by decide +kernel
theorem dX9_billsAnew_62 : decode (mC M_X9_billsAnew) 62 = .ok (.aload_n 0, 1) := by decide +kernel
theorem dX9_billsAnew_63 : decode (mC M_X9_billsAnew) 63 = .ok (.aload 4, 2) := by decide +kernel
theorem dX9_billsAnew_65 : decode (mC M_X9_billsAnew) 65 = .ok (.invokevirtual 327, 3) := by decide +kernel
theorem dX9_billsAnew_68 : decode (mC M_X9_billsAnew) 68 = .ok (.isub, 1) := by decide +kernel
theorem dX9_billsAnew_69 : decode (mC M_X9_billsAnew) 69 = .ok (.istore 5, 2) := by decide +kernel
theorem dX9_billsAnew_71 : decode (mC M_X9_billsAnew) 71 = .ok (.iload_n 2, 1) := by decide +kernel
theorem dX9_billsAnew_72 : decode (mC M_X9_billsAnew) 72 = .ok (.iload 5, 2) := by decide +kernel
theorem dX9_billsAnew_74 : decode (mC M_X9_billsAnew) 74 = .ok (.aload 4, 2) := by decide +kernel
theorem dX9_billsAnew_76 : decode (mC M_X9_billsAnew) 76 = .ok (.getfield 331, 3) := by decide +kernel
theorem dX9_billsAnew_79 : decode (mC M_X9_billsAnew) 79 = .ok (.invokestatic 314, 3) := by decide +kernel
theorem dX9_billsAnew_82 : decode (mC M_X9_billsAnew) 82 = .ok (.iadd, 1) := by decide +kernel
theorem dX9_billsAnew_83 : decode (mC M_X9_billsAnew) 83 = .ok (.istore_n 2, 1) := by decide +kernel
theorem dX9_billsAnew_84 : decode (mC M_X9_billsAnew) 84 = .ok (.iinc 3 1, 3) := by decide +kernel
theorem dX9_billsAnew_87 : decode (mC M_X9_billsAnew) 87 = .ok (.goto (-83), 3) := by decide +kernel
theorem dX9_billsAnew_90 : decode (mC M_X9_billsAnew) 90 = .ok (.iload_n 2, 1) := by decide +kernel
theorem dX9_billsAnew_91 : decode (mC M_X9_billsAnew) 91 = .ok (.ireturn, 1) := by decide +kernel
theorem dX9_leagueMinutes_0 : decode (mC M_X9_leagueMinutes) 0 = .ok (.iconst 0, 1) := by decide +kernel
theorem dX9_leagueMinutes_1 : decode (mC M_X9_leagueMinutes) 1 = .ok (.istore_n 2, 1) := by decide +kernel
theorem dX9_leagueMinutes_2 : decode (mC M_X9_leagueMinutes) 2 = .ok (.iconst 0, 1) := by decide +kernel
theorem dX9_leagueMinutes_3 : decode (mC M_X9_leagueMinutes) 3 = .ok (.istore_n 3, 1) := by decide +kernel
theorem dX9_leagueMinutes_4 : decode (mC M_X9_leagueMinutes) 4 = .ok (.iload_n 3, 1) := by decide +kernel
theorem dX9_leagueMinutes_5 : decode (mC M_X9_leagueMinutes) 5 = .ok (.aload_n 0, 1) := by decide +kernel
theorem dX9_leagueMinutes_6 : decode (mC M_X9_leagueMinutes) 6 = .ok (.getfield 332, 3) := by decide +kernel
theorem dX9_leagueMinutes_9 : decode (mC M_X9_leagueMinutes) 9 = .ok (.if_icmp .ge 59, 3) := by decide +kernel
theorem dX9_leagueMinutes_12 : decode (mC M_X9_leagueMinutes) 12 = .ok (.iload_n 3, 1) := by decide +kernel
theorem dX9_leagueMinutes_13 : decode (mC M_X9_leagueMinutes) 13 = .ok (.aload_n 0, 1) := by decide +kernel
theorem dX9_leagueMinutes_14 : decode (mC M_X9_leagueMinutes) 14 = .ok (.getfield 35, 3) := by decide +kernel
theorem dX9_leagueMinutes_17 : decode (mC M_X9_leagueMinutes) 17 = .ok (.arraylength, 1) := by decide +kernel
theorem dX9_leagueMinutes_18 : decode (mC M_X9_leagueMinutes) 18 = .ok (.if_icmp .ge 50, 3) := by decide +kernel
theorem dX9_leagueMinutes_21 : decode (mC M_X9_leagueMinutes) 21 = .ok (.aload_n 0, 1) := by decide +kernel
theorem dX9_leagueMinutes_22 : decode (mC M_X9_leagueMinutes) 22 = .ok (.getfield 35, 3) := by decide +kernel
theorem dX9_leagueMinutes_25 : decode (mC M_X9_leagueMinutes) 25 = .ok (.iload_n 3, 1) := by decide +kernel
theorem dX9_leagueMinutes_26 : decode (mC M_X9_leagueMinutes) 26 = .ok (.aaload, 1) := by decide +kernel
theorem dX9_leagueMinutes_27 : decode (mC M_X9_leagueMinutes) 27 = .ok (.astore 4, 2) := by decide +kernel
theorem dX9_leagueMinutes_29 : decode (mC M_X9_leagueMinutes) 29 = .ok (.aload 4, 2) := by decide +kernel
theorem dX9_leagueMinutes_31 : decode (mC M_X9_leagueMinutes) 31 = .ok (.ifnull 31, 3) := by decide +kernel
theorem dX9_leagueMinutes_34 : decode (mC M_X9_leagueMinutes) 34 = .ok (.aload 4, 2) := by decide +kernel
theorem dX9_leagueMinutes_36 : decode (mC M_X9_leagueMinutes) 36 = .ok (.getfield 335, 3) := by decide +kernel
theorem dX9_leagueMinutes_39 : decode (mC M_X9_leagueMinutes) 39 = .ok (.aload_n 1, 1) := by decide +kernel
theorem dX9_leagueMinutes_40 : decode (mC M_X9_leagueMinutes) 40 = .ok (.getfield 337, 3) := by decide +kernel
theorem dX9_leagueMinutes_43 : decode (mC M_X9_leagueMinutes) 43 = .ok (.if_icmp .ne 19, 3) := by decide +kernel
theorem dX9_leagueMinutes_46 : decode (mC M_X9_leagueMinutes) 46 = .ok (.iload_n 2, 1) := by decide +kernel
theorem dX9_leagueMinutes_47 : decode (mC M_X9_leagueMinutes) 47 = .ok (.aload 4, 2) := by decide +kernel
theorem dX9_leagueMinutes_49 : decode (mC M_X9_leagueMinutes) 49 = .ok (.aload_n 1, 1) := by decide +kernel
theorem dX9_leagueMinutes_50 : decode (mC M_X9_leagueMinutes) 50 = .ok (.getfield 324, 3) := by decide +kernel
theorem dX9_leagueMinutes_53 : decode (mC M_X9_leagueMinutes) 53 = .ok (.aload_n 1, 1) := by decide +kernel
theorem dX9_leagueMinutes_54 : decode (mC M_X9_leagueMinutes) 54 = .ok (.getfield 321, 3) := by decide +kernel
theorem dX9_leagueMinutes_57 : decode (mC M_X9_leagueMinutes) 57 = .ok (.invokevirtual 338, 3) := by decide +kernel
theorem dX9_leagueMinutes_60 : decode (mC M_X9_leagueMinutes) 60 = .ok (.iadd, 1) := by decide +kernel
theorem dX9_leagueMinutes_61 : decode (mC M_X9_leagueMinutes) 61 = .ok (.istore_n 2, 1) := by decide +kernel
theorem dX9_leagueMinutes_62 : decode (mC M_X9_leagueMinutes) 62 = .ok (.iinc 3 1, 3) := by decide +kernel
theorem dX9_leagueMinutes_65 : decode (mC M_X9_leagueMinutes) 65 = .ok (.goto (-61), 3) := by decide +kernel
theorem dX9_leagueMinutes_68 : decode (mC M_X9_leagueMinutes) 68 = .ok (.iload_n 2, 1) := by decide +kernel
theorem dX9_leagueMinutes_69 : decode (mC M_X9_leagueMinutes) 69 = .ok (.ireturn, 1) := by decide +kernel
theorem dX9_depositsAnew_0 : decode (mC M_X9_depositsAnew) 0 = .ok (.iconst 0, 1) := by decide +kernel
theorem dX9_depositsAnew_1 : decode (mC M_X9_depositsAnew) 1 = .ok (.istore_n 2, 1) := by decide +kernel
theorem dX9_depositsAnew_2 : decode (mC M_X9_depositsAnew) 2 = .ok (.iconst 0, 1) := by decide +kernel
theorem dX9_depositsAnew_3 : decode (mC M_X9_depositsAnew) 3 = .ok (.istore_n 3, 1) := by decide +kernel
theorem dX9_depositsAnew_4 : decode (mC M_X9_depositsAnew) 4 = .ok (.iload_n 3, 1) := by decide +kernel
theorem dX9_depositsAnew_5 : decode (mC M_X9_depositsAnew) 5 = .ok (.aload_n 0, 1) := by decide +kernel
theorem dX9_depositsAnew_6 : decode (mC M_X9_depositsAnew) 6 = .ok (.getfield 237, 3) := by decide +kernel
theorem dX9_depositsAnew_9 : decode (mC M_X9_depositsAnew) 9 = .ok (.if_icmp .ge 61, 3) := by decide +kernel
theorem dX9_depositsAnew_12 : decode (mC M_X9_depositsAnew) 12 = .ok (.iload_n 3, 1) := by decide +kernel
theorem dX9_depositsAnew_13 : decode (mC M_X9_depositsAnew) 13 = .ok (.aload_n 0, 1) := by decide +kernel
theorem dX9_depositsAnew_14 : decode (mC M_X9_depositsAnew) 14 = .ok (.getfield 41, 3) := by decide +kernel
theorem dX9_depositsAnew_17 : decode (mC M_X9_depositsAnew) 17 = .ok (.arraylength, 1) := by decide +kernel
theorem dX9_depositsAnew_18 : decode (mC M_X9_depositsAnew) 18 = .ok (.if_icmp .ge 52, 3) := by decide +kernel
theorem dX9_depositsAnew_21 : decode (mC M_X9_depositsAnew) 21 = .ok (.aload_n 0, 1) := by decide +kernel
theorem dX9_depositsAnew_22 : decode (mC M_X9_depositsAnew) 22 = .ok (.getfield 41, 3) := by decide +kernel
theorem dX9_depositsAnew_25 : decode (mC M_X9_depositsAnew) 25 = .ok (.iload_n 3, 1) := by decide +kernel
theorem dX9_depositsAnew_26 : decode (mC M_X9_depositsAnew) 26 = .ok (.aaload, 1) := by decide +kernel
theorem dX9_depositsAnew_27 : decode (mC M_X9_depositsAnew) 27 = .ok (.astore 4, 2) := by decide +kernel
theorem dX9_depositsAnew_29 : decode (mC M_X9_depositsAnew) 29 = .ok (.aload 4, 2) := by decide +kernel
theorem dX9_depositsAnew_31 : decode (mC M_X9_depositsAnew) 31 = .ok (.ifnull 33, 3) := by decide +kernel
theorem dX9_depositsAnew_34 : decode (mC M_X9_depositsAnew) 34 = .ok (.aload 4, 2) := by decide +kernel
theorem dX9_depositsAnew_36 : decode (mC M_X9_depositsAnew) 36 = .ok (.getfield 251, 3) := by decide +kernel
theorem dX9_depositsAnew_39 : decode (mC M_X9_depositsAnew) 39 = .ok (.iload_n 1, 1) := by decide +kernel
theorem dX9_depositsAnew_40 : decode (mC M_X9_depositsAnew) 40 = .ok (.if_icmp .ne 24, 3) := by decide +kernel
theorem dX9_depositsAnew_43 : decode (mC M_X9_depositsAnew) 43 = .ok (.iload_n 2, 1) := by decide +kernel
theorem dX9_depositsAnew_44 : decode (mC M_X9_depositsAnew) 44 = .ok (.aload 4, 2) := by decide +kernel
theorem dX9_depositsAnew_46 : decode (mC M_X9_depositsAnew) 46 = .ok (.invokevirtual 341, 3) := by decide +kernel
theorem dX9_depositsAnew_49 : decode (mC M_X9_depositsAnew) 49 = .ok (.ifCond .eq 11, 3) := by decide +kernel
theorem dX9_depositsAnew_52 : decode (mC M_X9_depositsAnew) 52 = .ok (.aload 4, 2) := by decide +kernel
theorem dX9_depositsAnew_54 : decode (mC M_X9_depositsAnew) 54 = .ok (.invokevirtual 248, 3) := by decide +kernel
theorem dX9_depositsAnew_57 : decode (mC M_X9_depositsAnew) 57 = .ok (.goto 5, 3) := by decide +kernel
theorem dX9_depositsAnew_60 : decode (mC M_X9_depositsAnew) 60 = .ok (.bipush 20, 2) := by decide +kernel
theorem dX9_depositsAnew_62 : decode (mC M_X9_depositsAnew) 62 = .ok (.iadd, 1) := by decide +kernel
theorem dX9_depositsAnew_63 : decode (mC M_X9_depositsAnew) 63 = .ok (.istore_n 2, 1) := by decide +kernel
theorem dX9_depositsAnew_64 : decode (mC M_X9_depositsAnew) 64 = .ok (.iinc 3 1, 3) := by decide +kernel
theorem dX9_depositsAnew_67 : decode (mC M_X9_depositsAnew) 67 = .ok (.goto (-63), 3) := by decide +kernel
theorem dX9_depositsAnew_70 : decode (mC M_X9_depositsAnew) 70 = .ok (.iload_n 2, 1) := by decide +kernel
theorem dX9_depositsAnew_71 : decode (mC M_X9_depositsAnew) 71 = .ok (.ireturn, 1) := by decide +kernel
theorem dX9_putFrameOn_0 : decode (mC M_X9_putFrameOn) 0 = .ok (.aload_n 1, 1) := by decide +kernel
theorem dX9_putFrameOn_1 : decode (mC M_X9_putFrameOn) 1 = .ok (.aload_n 2, 1) := by decide +kernel
theorem dX9_putFrameOn_2 : decode (mC M_X9_putFrameOn) 2 = .ok (.putfield 185, 3) := by decide +kernel
theorem dX9_putFrameOn_5 : decode (mC M_X9_putFrameOn) 5 = .ok (.aload_n 2, 1) := by decide +kernel
theorem dX9_putFrameOn_6 : decode (mC M_X9_putFrameOn) 6 = .ok (.aload_n 1, 1) := by decide +kernel
theorem dX9_putFrameOn_7 : decode (mC M_X9_putFrameOn) 7 = .ok (.putfield 257, 3) := by decide +kernel
theorem dX9_putFrameOn_10 : decode (mC M_X9_putFrameOn) 10 = .ok (.aload_n 1, 1) := by decide +kernel
theorem dX9_putFrameOn_11 : decode (mC M_X9_putFrameOn) 11 = .ok (.getfield 173, 3) := by decide +kernel
theorem dX9_putFrameOn_14 : decode (mC M_X9_putFrameOn) 14 = .ok (.ifCond .ne 4, 3) := by decide +kernel
theorem dX9_putFrameOn_17 : decode (mC M_X9_putFrameOn) 17 = .ok (.return_, 1) := by decide +kernel
theorem dX9_putFrameOn_18 : decode (mC M_X9_putFrameOn) 18 = .ok (.new 33, 3) := by decide +kernel
theorem dX9_putFrameOn_21 : decode (mC M_X9_putFrameOn) 21 = .ok (.dup, 1) := by decide +kernel
theorem dX9_putFrameOn_22 : decode (mC M_X9_putFrameOn) 22 = .ok (.iload_n 3, 1) := by decide +kernel
theorem dX9_putFrameOn_23 : decode (mC M_X9_putFrameOn) 23 = .ok (.aload_n 0, 1) := by decide +kernel
theorem dX9_putFrameOn_24 : decode (mC M_X9_putFrameOn) 24 = .ok (.getfield 102, 3) := by decide +kernel
theorem dX9_putFrameOn_27 : decode (mC M_X9_putFrameOn) 27 = .ok (.invokespecial 342, 3) := by decide +kernel
theorem dX9_putFrameOn_30 : decode (mC M_X9_putFrameOn) 30 = .ok (.astore 4, 2) := by decide +kernel
theorem dX9_putFrameOn_32 : decode (mC M_X9_putFrameOn) 32 = .ok (.aload_n 2, 1) := by decide +kernel
theorem dX9_putFrameOn_33 : decode (mC M_X9_putFrameOn) 33 = .ok (.aload 4, 2) := by decide +kernel
theorem dX9_putFrameOn_35 : decode (mC M_X9_putFrameOn) 35 = .ok (.putfield 343, 3) := by decide +kernel
theorem dX9_putFrameOn_38 : decode (mC M_X9_putFrameOn) 38 = .ok (.aload_n 0, 1) := by decide +kernel
theorem dX9_putFrameOn_39 : decode (mC M_X9_putFrameOn) 39 = .ok (.getfield 332, 3) := by decide +kernel
theorem dX9_putFrameOn_42 : decode (mC M_X9_putFrameOn) 42 = .ok (.aload_n 0, 1) := by decide +kernel
theorem dX9_putFrameOn_43 : decode (mC M_X9_putFrameOn) 43 = .ok (.getfield 35, 3) := by decide +kernel
theorem dX9_putFrameOn_46 : decode (mC M_X9_putFrameOn) 46 = .ok (.arraylength, 1) := by decide +kernel
theorem dX9_putFrameOn_47 : decode (mC M_X9_putFrameOn) 47 = .ok (.if_icmp .ge 24, 3) := by decide +kernel
theorem dX9_putFrameOn_50 : decode (mC M_X9_putFrameOn) 50 = .ok (.aload_n 0, 1) := by decide +kernel
theorem dX9_putFrameOn_51 : decode (mC M_X9_putFrameOn) 51 = .ok (.getfield 35, 3) := by decide +kernel
theorem dX9_putFrameOn_54 : decode (mC M_X9_putFrameOn) 54 = .ok (.aload_n 0, 1) := by decide +kernel
theorem dX9_putFrameOn_55 : decode (mC M_X9_putFrameOn) 55 = .ok (.getfield 332, 3) := by decide +kernel
theorem dX9_putFrameOn_58 : decode (mC M_X9_putFrameOn) 58 = .ok (.aload 4, 2) := by decide +kernel
theorem dX9_putFrameOn_60 : decode (mC M_X9_putFrameOn) 60 = .ok (.aastore, 1) := by decide +kernel
theorem dX9_putFrameOn_61 : decode (mC M_X9_putFrameOn) 61 = .ok (.aload_n 0, 1) := by decide +kernel
theorem dX9_putFrameOn_62 : decode (mC M_X9_putFrameOn) 62 = .ok (.dup, 1) := by decide +kernel
theorem dX9_putFrameOn_63 : decode (mC M_X9_putFrameOn) 63 = .ok (.getfield 332, 3) := by decide +kernel
theorem dX9_putFrameOn_66 : decode (mC M_X9_putFrameOn) 66 = .ok (.iconst 1, 1) := by decide +kernel
theorem dX9_putFrameOn_67 : decode (mC M_X9_putFrameOn) 67 = .ok (.iadd, 1) := by decide +kernel
theorem dX9_putFrameOn_68 : decode (mC M_X9_putFrameOn) 68 = .ok (.putfield 332, 3) := by decide +kernel
theorem dX9_putFrameOn_71 : decode (mC M_X9_putFrameOn) 71 = .ok (.return_, 1) := by decide +kernel
theorem dX9_takeFrameOff_0 : decode (mC M_X9_takeFrameOff) 0 = .ok (.aload_n 1, 1) := by decide +kernel
theorem dX9_takeFrameOff_1 : decode (mC M_X9_takeFrameOff) 1 = .ok (.ifnull 10, 3) := by decide +kernel
theorem dX9_takeFrameOff_4 : decode (mC M_X9_takeFrameOff) 4 = .ok (.aload_n 1, 1) := by decide +kernel
theorem dX9_takeFrameOff_5 : decode (mC M_X9_takeFrameOff) 5 = .ok (.getfield 257, 3) := by decide +kernel
theorem dX9_takeFrameOff_8 : decode (mC M_X9_takeFrameOff) 8 = .ok (.ifnonnull 4, 3) := by decide +kernel
theorem dX9_takeFrameOff_11 : decode (mC M_X9_takeFrameOff) 11 = .ok (.return_, 1) := by decide +kernel
theorem dX9_takeFrameOff_12 : decode (mC M_X9_takeFrameOff) 12 = .ok (.aload_n 1, 1) := by decide +kernel
theorem dX9_takeFrameOff_13 : decode (mC M_X9_takeFrameOff) 13 = .ok (.getfield 257, 3) := by decide +kernel
theorem dX9_takeFrameOff_16 : decode (mC M_X9_takeFrameOff) 16 = .ok (.aconst_null, 1) := by decide +kernel
theorem dX9_takeFrameOff_17 : decode (mC M_X9_takeFrameOff) 17 = .ok (.putfield 185, 3) := by decide +kernel
theorem dX9_takeFrameOff_20 : decode (mC M_X9_takeFrameOff) 20 = .ok (.aload_n 1, 1) := by decide +kernel
theorem dX9_takeFrameOff_21 : decode (mC M_X9_takeFrameOff) 21 = .ok (.aconst_null, 1) := by decide +kernel
theorem dX9_takeFrameOff_22 : decode (mC M_X9_takeFrameOff) 22 = .ok (.putfield 257, 3) := by decide +kernel
theorem dX9_takeFrameOff_25 : decode (mC M_X9_takeFrameOff) 25 = .ok (.aload_n 1, 1) := by decide +kernel
theorem dX9_takeFrameOff_26 : decode (mC M_X9_takeFrameOff) 26 = .ok (.getfield 343, 3) := by decide +kernel
theorem dX9_takeFrameOff_29 : decode (mC M_X9_takeFrameOff) 29 = .ok (.ifnull 19, 3) := by decide +kernel
theorem dX9_takeFrameOff_32 : decode (mC M_X9_takeFrameOff) 32 = .ok (.aload_n 1, 1) := by decide +kernel
theorem dX9_takeFrameOff_33 : decode (mC M_X9_takeFrameOff) 33 = .ok (.getfield 343, 3) := by decide +kernel
theorem dX9_takeFrameOff_36 : decode (mC M_X9_takeFrameOff) 36 = .ok (.aload_n 0, 1) := by decide +kernel
theorem dX9_takeFrameOff_37 : decode (mC M_X9_takeFrameOff) 37 = .ok (.getfield 102, 3) := by decide +kernel
theorem dX9_takeFrameOff_40 : decode (mC M_X9_takeFrameOff) 40 = .ok (.invokevirtual 347, 3) := by decide +kernel
theorem dX9_takeFrameOff_43 : decode (mC M_X9_takeFrameOff) 43 = .ok (.aload_n 1, 1) := by decide +kernel
theorem dX9_takeFrameOff_44 : decode (mC M_X9_takeFrameOff) 44 = .ok (.aconst_null, 1) := by decide +kernel
theorem dX9_takeFrameOff_45 : decode (mC M_X9_takeFrameOff) 45 = .ok (.putfield 343, 3) := by decide +kernel
theorem dX9_takeFrameOff_48 : decode (mC M_X9_takeFrameOff) 48 = .ok (.return_, 1) := by decide +kernel
theorem dX9_countWin_0 : decode (mC M_X9_countWin) 0 = .ok (.aload_n 1, 1) := by decide +kernel
theorem dX9_countWin_1 : decode (mC M_X9_countWin) 1 = .ok (.getfield 285, 3) := by decide +kernel
theorem dX9_countWin_4 : decode (mC M_X9_countWin) 4 = .ok (.istore_n 2, 1) := by decide +kernel
theorem dX9_countWin_5 : decode (mC M_X9_countWin) 5 = .ok (.aload_n 1, 1) := by decide +kernel
theorem dX9_countWin_6 : decode (mC M_X9_countWin) 6 = .ok (.getfield 173, 3) := by decide +kernel
theorem dX9_countWin_9 : decode (mC M_X9_countWin) 9 = .ok (.ifCond .eq 26, 3) := by decide +kernel
theorem dX9_countWin_12 : decode (mC M_X9_countWin) 12 = .ok (.iload_n 2, 1) := by decide +kernel
theorem dX9_countWin_13 : decode (mC M_X9_countWin) 13 = .ok (.ifCond .lt 22, 3) := by decide +kernel
theorem dX9_countWin_16 : decode (mC M_X9_countWin) 16 = .ok (.iload_n 2, 1) := by decide +kernel
theorem dX9_countWin_17 : decode (mC M_X9_countWin) 17 = .ok (.aload_n 0, 1) := by decide +kernel
theorem dX9_countWin_18 : decode (mC M_X9_countWin) 18 = .ok (.getfield 49, 3) := by decide +kernel
theorem dX9_countWin_21 : decode (mC M_X9_countWin) 21 = .ok (.arraylength, 1) := by decide +kernel
theorem dX9_countWin_22 : decode (mC M_X9_countWin) 22 = .ok (.if_icmp .ge 13, 3) := by decide +kernel
theorem dX9_countWin_25 : decode (mC M_X9_countWin) 25 = .ok (.aload_n 0, 1) := by decide +kernel
theorem dX9_countWin_26 : decode (mC M_X9_countWin) 26 = .ok (.getfield 49, 3) := by decide +kernel
theorem dX9_countWin_29 : decode (mC M_X9_countWin) 29 = .ok (.iload_n 2, 1) := by decide +kernel
theorem dX9_countWin_30 : decode (mC M_X9_countWin) 30 = .ok (.dup2, 1) := by decide +kernel
theorem dX9_countWin_31 : decode (mC M_X9_countWin) 31 = .ok (.iaload, 1) := by decide +kernel
theorem dX9_countWin_32 : decode (mC M_X9_countWin) 32 = .ok (.iconst 1, 1) := by decide +kernel
theorem dX9_countWin_33 : decode (mC M_X9_countWin) 33 = .ok (.iadd, 1) := by decide +kernel
theorem dX9_countWin_34 : decode (mC M_X9_countWin) 34 = .ok (.iastore, 1) := by decide +kernel
theorem dX9_countWin_35 : decode (mC M_X9_countWin) 35 = .ok (.return_, 1) := by decide +kernel
theorem dX9_cueHeldBy_0 : decode (mC M_X9_cueHeldBy) 0 = .ok (.aload_n 0, 1) := by decide +kernel
theorem dX9_cueHeldBy_1 : decode (mC M_X9_cueHeldBy) 1 = .ok (.getfield 17, 3) := by decide +kernel
theorem dX9_cueHeldBy_4 : decode (mC M_X9_cueHeldBy) 4 = .ok (.astore_n 2, 1) := by decide +kernel
theorem dX9_cueHeldBy_5 : decode (mC M_X9_cueHeldBy) 5 = .ok (.aload_n 2, 1) := by decide +kernel
theorem dX9_cueHeldBy_6 : decode (mC M_X9_cueHeldBy) 6 = .ok (.arraylength, 1) := by decide +kernel
theorem dX9_cueHeldBy_7 : decode (mC M_X9_cueHeldBy) 7 = .ok (.istore_n 3, 1) := by decide +kernel
theorem dX9_cueHeldBy_8 : decode (mC M_X9_cueHeldBy) 8 = .ok (.iconst 0, 1) := by decide +kernel
theorem dX9_cueHeldBy_9 : decode (mC M_X9_cueHeldBy) 9 = .ok (.istore 4, 2) := by decide +kernel
theorem dX9_cueHeldBy_11 : decode (mC M_X9_cueHeldBy) 11 = .ok (.iload 4, 2) := by decide +kernel
theorem dX9_cueHeldBy_13 : decode (mC M_X9_cueHeldBy) 13 = .ok (.iload_n 3, 1) := by decide +kernel
theorem dX9_cueHeldBy_14 : decode (mC M_X9_cueHeldBy) 14 = .ok (.if_icmp .ge 32, 3) := by decide +kernel
theorem dX9_cueHeldBy_17 : decode (mC M_X9_cueHeldBy) 17 = .ok (.aload_n 2, 1) := by decide +kernel
theorem dX9_cueHeldBy_18 : decode (mC M_X9_cueHeldBy) 18 = .ok (.iload 4, 2) := by decide +kernel
theorem dX9_cueHeldBy_20 : decode (mC M_X9_cueHeldBy) 20 = .ok (.aaload, 1) := by decide +kernel
theorem dX9_cueHeldBy_21 : decode (mC M_X9_cueHeldBy) 21 = .ok (.astore 5, 2) := by decide +kernel
theorem dX9_cueHeldBy_23 : decode (mC M_X9_cueHeldBy) 23 = .ok (.aload 5, 2) := by decide +kernel
theorem dX9_cueHeldBy_25 : decode (mC M_X9_cueHeldBy) 25 = .ok (.ifnull 15, 3) := by decide +kernel
theorem dX9_cueHeldBy_28 : decode (mC M_X9_cueHeldBy) 28 = .ok (.aload 5, 2) := by decide +kernel
theorem dX9_cueHeldBy_30 : decode (mC M_X9_cueHeldBy) 30 = .ok (.iload_n 1, 1) := by decide +kernel
theorem dX9_cueHeldBy_31 : decode (mC M_X9_cueHeldBy) 31 = .ok (.invokevirtual 292, 3) := by decide +kernel
theorem dX9_cueHeldBy_34 : decode (mC M_X9_cueHeldBy) 34 = .ok (.ifCond .eq 6, 3) := by decide +kernel
theorem dX9_cueHeldBy_37 : decode (mC M_X9_cueHeldBy) 37 = .ok (.aload 5, 2) := by decide +kernel
theorem dX9_cueHeldBy_39 : decode (mC M_X9_cueHeldBy) 39 = .ok (.areturn, 1) := by decide +kernel
theorem dX9_cueHeldBy_40 : decode (mC M_X9_cueHeldBy) 40 = .ok (.iinc 4 1, 3) := by decide +kernel
theorem dX9_cueHeldBy_43 : decode (mC M_X9_cueHeldBy) 43 = .ok (.goto (-32), 3) := by decide +kernel
theorem dX9_cueHeldBy_46 : decode (mC M_X9_cueHeldBy) 46 = .ok (.aconst_null, 1) := by decide +kernel
theorem dX9_cueHeldBy_47 : decode (mC M_X9_cueHeldBy) 47 = .ok (.areturn, 1) := by decide +kernel
theorem dX9_forceWith_0 : decode (mC M_X9_forceWith) 0 = .ok (.aload_n 0, 1) := by decide +kernel
theorem dX9_forceWith_1 : decode (mC M_X9_forceWith) 1 = .ok (.ifnonnull 11, 3) := by decide +kernel
theorem dX9_forceWith_4 : decode (mC M_X9_forceWith) 4 = .ok (.iload_n 1, 1) := by decide +kernel
theorem dX9_forceWith_5 : decode (mC M_X9_forceWith) 5 = .ok (.iconst 3, 1) := by decide +kernel
theorem dX9_forceWith_6 : decode (mC M_X9_forceWith) 6 = .ok (.imul, 1) := by decide +kernel
theorem dX9_forceWith_7 : decode (mC M_X9_forceWith) 7 = .ok (.iconst 4, 1) := by decide +kernel
theorem dX9_forceWith_8 : decode (mC M_X9_forceWith) 8 = .ok (.idiv, 1) := by decide +kernel
theorem dX9_forceWith_9 : decode (mC M_X9_forceWith) 9 = .ok (.goto 17, 3) := by decide +kernel
theorem dX9_forceWith_12 : decode (mC M_X9_forceWith) 12 = .ok (.iload_n 1, 1) := by decide +kernel
theorem dX9_forceWith_13 : decode (mC M_X9_forceWith) 13 = .ok (.sipush 200, 3) := by decide +kernel
theorem dX9_forceWith_16 : decode (mC M_X9_forceWith) 16 = .ok (.aload_n 0, 1) := by decide +kernel
theorem dX9_forceWith_17 : decode (mC M_X9_forceWith) 17 = .ok (.getfield 231, 3) := by decide +kernel
theorem dX9_forceWith_20 : decode (mC M_X9_forceWith) 20 = .ok (.isub, 1) := by decide +kernel
theorem dX9_forceWith_21 : decode (mC M_X9_forceWith) 21 = .ok (.imul, 1) := by decide +kernel
theorem dX9_forceWith_22 : decode (mC M_X9_forceWith) 22 = .ok (.sipush 200, 3) := by decide +kernel
theorem dX9_forceWith_25 : decode (mC M_X9_forceWith) 25 = .ok (.idiv, 1) := by decide +kernel
theorem dX9_forceWith_26 : decode (mC M_X9_forceWith) 26 = .ok (.istore_n 2, 1) := by decide +kernel
theorem dX9_forceWith_27 : decode (mC M_X9_forceWith) 27 = .ok (.iconst 1, 1) := by decide +kernel
theorem dX9_forceWith_28 : decode (mC M_X9_forceWith) 28 = .ok (.iload_n 2, 1) := by decide +kernel
theorem dX9_forceWith_29 : decode (mC M_X9_forceWith) 29 = .ok (.invokestatic 348, 3) := by decide +kernel
theorem dX9_forceWith_32 : decode (mC M_X9_forceWith) 32 = .ok (.ireturn, 1) := by decide +kernel
theorem dX9_contactsOf_0 : decode (mC M_X9_contactsOf) 0 = .ok (.aload_n 0, 1) := by decide +kernel
theorem dX9_contactsOf_1 : decode (mC M_X9_contactsOf) 1 = .ok (.iload_n 2, 1) := by decide +kernel
theorem dX9_contactsOf_2 : decode (mC M_X9_contactsOf) 2 = .ok (.invokevirtual 164, 3) := by decide +kernel
theorem dX9_contactsOf_5 : decode (mC M_X9_contactsOf) 5 = .ok (.astore 5, 2) := by decide +kernel
theorem dX9_contactsOf_7 : decode (mC M_X9_contactsOf) 7 = .ok (.iload_n 3, 1) := by decide +kernel
theorem dX9_contactsOf_8 : decode (mC M_X9_contactsOf) 8 = .ok (.iconst 0, 1) := by decide +kernel
theorem dX9_contactsOf_9 : decode (mC M_X9_contactsOf) 9 = .ok (.bipush 7, 2) := by decide +kernel
theorem dX9_contactsOf_11 : decode (mC M_X9_contactsOf) 11 = .ok (.invokestatic 71, 3) := by decide +kernel
theorem dX9_contactsOf_14 : decode (mC M_X9_contactsOf) 14 = .ok (.iload 4, 2) := by decide +kernel
theorem dX9_contactsOf_16 : decode (mC M_X9_contactsOf) 16 = .ok (.iconst 1, 1) := by decide +kernel
theorem dX9_contactsOf_17 : decode (mC M_X9_contactsOf) 17 = .ok (.bipush 40, 2) := by decide +kernel
theorem dX9_contactsOf_19 : decode (mC M_X9_contactsOf) 19 = .ok (.invokestatic 71, 3) := by decide +kernel
theorem dX9_contactsOf_22 : decode (mC M_X9_contactsOf) 22 = .ok (.aload_n 1, 1) := by decide +kernel
theorem dX9_contactsOf_23 : decode (mC M_X9_contactsOf) 23 = .ok (.aload 5, 2) := by decide +kernel
theorem dX9_contactsOf_25 : decode (mC M_X9_contactsOf) 25 = .ok (.getfield 195, 3) := by decide +kernel
theorem dX9_contactsOf_28 : decode (mC M_X9_contactsOf) 28 = .ok (.iload_n 3, 1) := by decide +kernel
theorem dX9_contactsOf_29 : decode (mC M_X9_contactsOf) 29 = .ok (.iload 4, 2) := by decide +kernel
theorem dX9_contactsOf_31 : decode (mC M_X9_contactsOf) 31 = .ok (.invokevirtual 202, 3) := by decide +kernel
theorem dX9_contactsOf_34 : decode (mC M_X9_contactsOf) 34 = .ok (.aload_n 1, 1) := by decide +kernel
theorem dX9_contactsOf_35 : decode (mC M_X9_contactsOf) 35 = .ok (.getfield 353, 3) := by decide +kernel
theorem dX9_contactsOf_38 : decode (mC M_X9_contactsOf) 38 = .ok (.ireturn, 1) := by decide +kernel
theorem dX9_cellBeside_0 : decode (mC M_X9_cellBeside) 0 = .ok (.iload_n 0, 1) := by decide +kernel
theorem dX9_cellBeside_1 : decode (mC M_X9_cellBeside) 1 = .ok (.ifCond .lt 13, 3) := by decide +kernel
theorem dX9_cellBeside_4 : decode (mC M_X9_cellBeside) 4 = .ok (.iload_n 1, 1) := by decide +kernel
theorem dX9_cellBeside_5 : decode (mC M_X9_cellBeside) 5 = .ok (.ifCond .lt 9, 3) := by decide +kernel
theorem dX9_cellBeside_8 : decode (mC M_X9_cellBeside) 8 = .ok (.iload_n 1, 1) := by decide +kernel
theorem dX9_cellBeside_9 : decode (mC M_X9_cellBeside) 9 = .ok (.bipush 8, 2) := by decide +kernel
theorem dX9_cellBeside_11 : decode (mC M_X9_cellBeside) 11 = .ok (.if_icmp .lt 5, 3) := by decide +kernel
theorem dX9_cellBeside_14 : decode (mC M_X9_cellBeside) 14 = .ok (.iconst (-1), 1) := by decide +kernel
theorem dX9_cellBeside_15 : decode (mC M_X9_cellBeside) 15 = .ok (.ireturn, 1) := by decide +kernel
theorem dX9_cellBeside_16 : decode (mC M_X9_cellBeside) 16 = .ok (.iload_n 0, 1) := by decide +kernel
theorem dX9_cellBeside_17 : decode (mC M_X9_cellBeside) 17 = .ok (.bipush 16, 2) := by decide +kernel
theorem dX9_cellBeside_19 : decode (mC M_X9_cellBeside) 19 = .ok (.irem, 1) := by decide +kernel
theorem dX9_cellBeside_20 : decode (mC M_X9_cellBeside) 20 = .ok (.getstatic 356, 3) := by decide +kernel
theorem dX9_cellBeside_23 : decode (mC M_X9_cellBeside) 23 = .ok (.iload_n 1, 1) := by decide +kernel
theorem dX9_cellBeside_24 : decode (mC M_X9_cellBeside) 24 = .ok (.iaload, 1) := by decide +kernel
theorem dX9_cellBeside_25 : decode (mC M_X9_cellBeside) 25 = .ok (.iadd, 1) := by decide +kernel
theorem dX9_cellBeside_26 : decode (mC M_X9_cellBeside) 26 = .ok (.istore_n 2, 1) := by decide +kernel
theorem dX9_cellBeside_27 : decode (mC M_X9_cellBeside) 27 = .ok (.iload_n 0, 1) := by decide +kernel
theorem dX9_cellBeside_28 : decode (mC M_X9_cellBeside) 28 = .ok (.bipush 16, 2) := by decide +kernel
theorem dX9_cellBeside_30 : decode (mC M_X9_cellBeside) 30 = .ok (.idiv, 1) := by decide +kernel
theorem dX9_cellBeside_31 : decode (mC M_X9_cellBeside) 31 = .ok (.getstatic 359, 3) := by decide +kernel
theorem dX9_cellBeside_34 : decode (mC M_X9_cellBeside) 34 = .ok (.iload_n 1, 1) := by decide +kernel
theorem dX9_cellBeside_35 : decode (mC M_X9_cellBeside) 35 = .ok (.iaload, 1) := by decide +kernel
theorem dX9_cellBeside_36 : decode (mC M_X9_cellBeside) 36 = .ok (.iadd, 1) := by decide +kernel
theorem dX9_cellBeside_37 : decode (mC M_X9_cellBeside) 37 = .ok (.istore_n 3, 1) := by decide +kernel
theorem dX9_cellBeside_38 : decode (mC M_X9_cellBeside) 38 = .ok (.iload_n 2, 1) := by decide +kernel
theorem dX9_cellBeside_39 : decode (mC M_X9_cellBeside) 39 = .ok (.invokestatic 362, 3) := by decide +kernel
theorem dX9_cellBeside_42 : decode (mC M_X9_cellBeside) 42 = .ok (.ifCond .eq 19, 3) := by decide +kernel
theorem dX9_cellBeside_45 : decode (mC M_X9_cellBeside) 45 = .ok (.iload_n 3, 1) := by decide +kernel
theorem dX9_cellBeside_46 : decode (mC M_X9_cellBeside) 46 = .ok (.invokestatic 365, 3) := by decide +kernel
theorem dX9_cellBeside_49 : decode (mC M_X9_cellBeside) 49 = .ok (.ifCond .eq 12, 3) := by decide +kernel
theorem dX9_cellBeside_52 : decode (mC M_X9_cellBeside) 52 = .ok (.bipush 16, 2) := by decide +kernel
theorem dX9_cellBeside_54 : decode (mC M_X9_cellBeside) 54 = .ok (.iload_n 3, 1) := by decide +kernel
theorem dX9_cellBeside_55 : decode (mC M_X9_cellBeside) 55 = .ok (.imul, 1) := by decide +kernel
theorem dX9_cellBeside_56 : decode (mC M_X9_cellBeside) 56 = .ok (.iload_n 2, 1) := by decide +kernel
theorem dX9_cellBeside_57 : decode (mC M_X9_cellBeside) 57 = .ok (.iadd, 1) := by decide +kernel
theorem dX9_cellBeside_58 : decode (mC M_X9_cellBeside) 58 = .ok (.goto 4, 3) := by decide +kernel
theorem dX9_cellBeside_61 : decode (mC M_X9_cellBeside) 61 = .ok (.iconst (-1), 1) := by decide +kernel
theorem dX9_cellBeside_62 : decode (mC M_X9_cellBeside) 62 = .ok (.ireturn, 1) := by decide +kernel
theorem dX9_isColumn_0 : decode (mC M_X9_isColumn) 0 = .ok (.iload_n 0, 1) := by decide +kernel
theorem dX9_isColumn_1 : decode (mC M_X9_isColumn) 1 = .ok (.ifCond .lt 13, 3) := by decide +kernel
theorem dX9_isColumn_4 : decode (mC M_X9_isColumn) 4 = .ok (.iload_n 0, 1) := by decide +kernel
theorem dX9_isColumn_5 : decode (mC M_X9_isColumn) 5 = .ok (.bipush 16, 2) := by decide +kernel
theorem dX9_isColumn_7 : decode (mC M_X9_isColumn) 7 = .ok (.if_icmp .ge 7, 3) := by decide +kernel
theorem dX9_isColumn_10 : decode (mC M_X9_isColumn) 10 = .ok (.iconst 1, 1) := by decide +kernel
theorem dX9_isColumn_11 : decode (mC M_X9_isColumn) 11 = .ok (.goto 4, 3) := by decide +kernel
theorem dX9_isColumn_14 : decode (mC M_X9_isColumn) 14 = .ok (.iconst 0, 1) := by decide +kernel
theorem dX9_isColumn_15 : decode (mC M_X9_isColumn) 15 = .ok (.ireturn, 1) := by decide +kernel
theorem dX9_isRow_0 : decode (mC M_X9_isRow) 0 = .ok (.iload_n 0, 1) := by decide +kernel
theorem dX9_isRow_1 : decode (mC M_X9_isRow) 1 = .ok (.ifCond .lt 13, 3) := by decide +kernel
theorem dX9_isRow_4 : decode (mC M_X9_isRow) 4 = .ok (.iload_n 0, 1) := by decide +kernel
theorem dX9_isRow_5 : decode (mC M_X9_isRow) 5 = .ok (.bipush 8, 2) := by decide +kernel
theorem dX9_isRow_7 : decode (mC M_X9_isRow) 7 = .ok (.if_icmp .ge 7, 3) := by decide +kernel
theorem dX9_isRow_10 : decode (mC M_X9_isRow) 10 = .ok (.iconst 1, 1) := by decide +kernel
theorem dX9_isRow_11 : decode (mC M_X9_isRow) 11 = .ok (.goto 4, 3) := by decide +kernel
theorem dX9_isRow_14 : decode (mC M_X9_isRow) 14 = .ok (.iconst 0, 1) := by decide +kernel
theorem dX9_isRow_15 : decode (mC M_X9_isRow) 15 = .ok (.ireturn, 1) := by decide +kernel
theorem dX9_isPocket_0 : decode (mC M_X9_isPocket) 0 = .ok (.getstatic 368, 3) := by decide +kernel
theorem dX9_isPocket_3 : decode (mC M_X9_isPocket) 3 = .ok (.astore_n 1, 1) := by decide +kernel
theorem dX9_isPocket_4 : decode (mC M_X9_isPocket) 4 = .ok (.aload_n 1, 1) := by decide +kernel
theorem dX9_isPocket_5 : decode (mC M_X9_isPocket) 5 = .ok (.arraylength, 1) := by decide +kernel
theorem dX9_isPocket_6 : decode (mC M_X9_isPocket) 6 = .ok (.istore_n 2, 1) := by decide +kernel
theorem dX9_isPocket_7 : decode (mC M_X9_isPocket) 7 = .ok (.iconst 0, 1) := by decide +kernel
theorem dX9_isPocket_8 : decode (mC M_X9_isPocket) 8 = .ok (.istore_n 3, 1) := by decide +kernel
theorem dX9_isPocket_9 : decode (mC M_X9_isPocket) 9 = .ok (.iload_n 3, 1) := by decide +kernel
theorem dX9_isPocket_10 : decode (mC M_X9_isPocket) 10 = .ok (.iload_n 2, 1) := by decide +kernel
theorem dX9_isPocket_11 : decode (mC M_X9_isPocket) 11 = .ok (.if_icmp .ge 22, 3) := by decide +kernel
theorem dX9_isPocket_14 : decode (mC M_X9_isPocket) 14 = .ok (.aload_n 1, 1) := by decide +kernel
theorem dX9_isPocket_15 : decode (mC M_X9_isPocket) 15 = .ok (.iload_n 3, 1) := by decide +kernel
theorem dX9_isPocket_16 : decode (mC M_X9_isPocket) 16 = .ok (.iaload, 1) := by decide +kernel
theorem dX9_isPocket_17 : decode (mC M_X9_isPocket) 17 = .ok (.istore 4, 2) := by decide +kernel
theorem dX9_isPocket_19 : decode (mC M_X9_isPocket) 19 = .ok (.iload 4, 2) := by decide +kernel
theorem dX9_isPocket_21 : decode (mC M_X9_isPocket) 21 = .ok (.iload_n 0, 1) := by decide +kernel
theorem dX9_isPocket_22 : decode (mC M_X9_isPocket) 22 = .ok (.if_icmp .ne 5, 3) := by decide +kernel
theorem dX9_isPocket_25 : decode (mC M_X9_isPocket) 25 = .ok (.iconst 1, 1) := by decide +kernel
theorem dX9_isPocket_26 : decode (mC M_X9_isPocket) 26 = .ok (.ireturn, 1) := by decide +kernel
theorem dX9_isPocket_27 : decode (mC M_X9_isPocket) 27 = .ok (.iinc 3 1, 3) := by decide +kernel
theorem dX9_isPocket_30 : decode (mC M_X9_isPocket) 30 = .ok (.goto (-21), 3) := by decide +kernel
theorem dX9_isPocket_33 : decode (mC M_X9_isPocket) 33 = .ok (.iconst 0, 1) := by decide +kernel
theorem dX9_isPocket_34 : decode (mC M_X9_isPocket) 34 = .ok (.ireturn, 1) := by decide +kernel
theorem dX9_turnedBack_0 : decode (mC M_X9_turnedBack) 0 = .ok (.iload_n 0, 1) := by decide +kernel
theorem dX9_turnedBack_1 : decode (mC M_X9_turnedBack) 1 = .ok (.ifCond .lt 13, 3) := by decide +kernel
theorem dX9_turnedBack_4 : decode (mC M_X9_turnedBack) 4 = .ok (.iload_n 1, 1) := by decide +kernel
theorem dX9_turnedBack_5 : decode (mC M_X9_turnedBack) 5 = .ok (.ifCond .lt 9, 3) := by decide +kernel
theorem dX9_turnedBack_8 : decode (mC M_X9_turnedBack) 8 = .ok (.iload_n 1, 1) := by decide +kernel
theorem dX9_turnedBack_9 : decode (mC M_X9_turnedBack) 9 = .ok (.bipush 8, 2) := by decide +kernel
theorem dX9_turnedBack_11 : decode (mC M_X9_turnedBack) 11 = .ok (.if_icmp .lt 5, 3) := by decide +kernel
theorem dX9_turnedBack_14 : decode (mC M_X9_turnedBack) 14 = .ok (.iload_n 1, 1) := by decide +kernel
theorem dX9_turnedBack_15 : decode (mC M_X9_turnedBack) 15 = .ok (.ireturn, 1) := by decide +kernel
theorem dX9_turnedBack_16 : decode (mC M_X9_turnedBack) 16 = .ok (.iload_n 1, 1) := by decide +kernel
theorem dX9_turnedBack_17 : decode (mC M_X9_turnedBack) 17 = .ok (.istore_n 2, 1) := by decide +kernel
theorem dX9_turnedBack_18 : decode (mC M_X9_turnedBack) 18 = .ok (.iload_n 0, 1) := by decide +kernel
theorem dX9_turnedBack_19 : decode (mC M_X9_turnedBack) 19 = .ok (.bipush 16, 2) := by decide +kernel
theorem dX9_turnedBack_21 : decode (mC M_X9_turnedBack) 21 = .ok (.irem, 1) := by decide +kernel
theorem dX9_turnedBack_22 : decode (mC M_X9_turnedBack) 22 = .ok (.getstatic 356, 3) := by decide +kernel
theorem dX9_turnedBack_25 : decode (mC M_X9_turnedBack) 25 = .ok (.iload_n 1, 1) := by decide +kernel
theorem dX9_turnedBack_26 : decode (mC M_X9_turnedBack) 26 = .ok (.iaload, 1) := by decide +kernel
theorem dX9_turnedBack_27 : decode (mC M_X9_turnedBack) 27 = .ok (.iadd, 1) := by decide +kernel
theorem dX9_turnedBack_28 : decode (mC M_X9_turnedBack) 28 = .ok (.invokestatic 362, 3) := by decide +kernel
theorem dX9_turnedBack_31 : decode (mC M_X9_turnedBack) 31 = .ok (.ifCond .ne 11, 3) := by decide +kernel
theorem dX9_turnedBack_34 : decode (mC M_X9_turnedBack) 34 = .ok (.bipush 8, 2) := by decide +kernel
theorem dX9_turnedBack_36 : decode (mC M_X9_turnedBack) 36 = .ok (.iload_n 2, 1) := by decide +kernel
theorem dX9_turnedBack_37 : decode (mC M_X9_turnedBack) 37 = .ok (.isub, 1) := by decide +kernel
theorem dX9_turnedBack_38 : decode (mC M_X9_turnedBack) 38 = .ok (.bipush 8, 2) := by decide +kernel
theorem dX9_turnedBack_40 : decode (mC M_X9_turnedBack) 40 = .ok (.irem, 1) := by decide +kernel
theorem dX9_turnedBack_41 : decode (mC M_X9_turnedBack) 41 = .ok (.istore_n 2, 1) := by decide +kernel
theorem dX9_turnedBack_42 : decode (mC M_X9_turnedBack) 42 = .ok (.iload_n 0, 1) := by decide +kernel
theorem dX9_turnedBack_43 : decode (mC M_X9_turnedBack) 43 = .ok (.bipush 16, 2) := by decide +kernel
theorem dX9_turnedBack_45 : decode (mC M_X9_turnedBack) 45 = .ok (.idiv, 1) := by decide +kernel
theorem dX9_turnedBack_46 : decode (mC M_X9_turnedBack) 46 = .ok (.getstatic 359, 3) := by decide +kernel
theorem dX9_turnedBack_49 : decode (mC M_X9_turnedBack) 49 = .ok (.iload_n 1, 1) := by decide +kernel
theorem dX9_turnedBack_50 : decode (mC M_X9_turnedBack) 50 = .ok (.iaload, 1) := by decide +kernel
theorem dX9_turnedBack_51 : decode (mC M_X9_turnedBack) 51 = .ok (.iadd, 1) := by decide +kernel
theorem dX9_turnedBack_52 : decode (mC M_X9_turnedBack) 52 = .ok (.invokestatic 365, 3) := by decide +kernel
theorem dX9_turnedBack_55 : decode (mC M_X9_turnedBack) 55 = .ok (.ifCond .ne 11, 3) := by decide +kernel
theorem dX9_turnedBack_58 : decode (mC M_X9_turnedBack) 58 = .ok (.bipush 12, 2) := by decide +kernel
theorem dX9_turnedBack_60 : decode (mC M_X9_turnedBack) 60 = .ok (.iload_n 2, 1) := by decide +kernel
theorem dX9_turnedBack_61 : decode (mC M_X9_turnedBack) 61 = .ok (.isub, 1) := by decide +kernel
theorem dX9_turnedBack_62 : decode (mC M_X9_turnedBack) 62 = .ok (.bipush 8, 2) := by decide +kernel
theorem dX9_turnedBack_64 : decode (mC M_X9_turnedBack) 64 = .ok (.irem, 1) := by decide +kernel
theorem dX9_turnedBack_65 : decode (mC M_X9_turnedBack) 65 = .ok (.istore_n 2, 1) := by decide +kernel
theorem dX9_turnedBack_66 : decode (mC M_X9_turnedBack) 66 = .ok (.iload_n 2, 1) := by decide +kernel
theorem dX9_turnedBack_67 : decode (mC M_X9_turnedBack) 67 = .ok (.ireturn, 1) := by decide +kernel
theorem dX10_init_0 : decode (mC M_X10_init) 0 = .ok (.aload_n 0, 1) := by decide +kernel
theorem dX10_init_1 : decode (mC M_X10_init) 1 = .ok (.invokespecial 1, 3) := by decide +kernel
theorem dX10_init_4 : decode (mC M_X10_init) 4 = .ok (.aload_n 0, 1) := by decide +kernel
theorem dX10_init_5 : decode (mC M_X10_init) 5 = .ok (.bipush 6, 2) := by decide +kernel
theorem dX10_init_7 : decode (mC M_X10_init) 7 = .ok (.putfield 7, 3) := by decide +kernel
theorem dX10_init_10 : decode (mC M_X10_init) 10 = .ok (.aload_n 0, 1) := by decide +kernel
theorem dX10_init_11 : decode (mC M_X10_init) 11 = .ok (.iconst 4, 1) := by decide +kernel
theorem dX10_init_12 : decode (mC M_X10_init) 12 = .ok (.newarray .boolean, 2) := by decide +kernel
theorem dX10_init_14 : decode (mC M_X10_init) 14 = .ok (.putfield 13, 3) := by decide +kernel
theorem dX10_init_17 : decode (mC M_X10_init) 17 = .ok (.aload_n 0, 1) := by decide +kernel
theorem dX10_init_18 : decode (mC M_X10_init) 18 = .ok (.iconst 4, 1) := by decide +kernel
theorem dX10_init_19 : decode (mC M_X10_init) 19 = .ok (.newarray .int, 2) := by decide +kernel
theorem dX10_init_21 : decode (mC M_X10_init) 21 = .ok (.putfield 17, 3) := by decide +kernel
theorem dX10_init_24 : decode (mC M_X10_init) 24 = .ok (.aload_n 0, 1) := by decide +kernel
theorem dX10_init_25 : decode (mC M_X10_init) 25 = .ok (.iconst 4, 1) := by decide +kernel
theorem dX10_init_26 : decode (mC M_X10_init) 26 = .ok (.newarray .int, 2) := by decide +kernel
theorem dX10_init_28 : decode (mC M_X10_init) 28 = .ok (.putfield 21, 3) := by decide +kernel
theorem dX10_init_31 : decode (mC M_X10_init) 31 = .ok (.aload_n 0, 1) := by decide +kernel
theorem dX10_init_32 : decode (mC M_X10_init) 32 = .ok (.iconst 4, 1) := by decide +kernel
theorem dX10_init_33 : decode (mC M_X10_init) 33 = .ok (.newarray .int, 2) := by decide +kernel
theorem dX10_init_35 : decode (mC M_X10_init) 35 = .ok (.putfield 24, 3) := by decide +kernel
theorem dX10_init_38 : decode (mC M_X10_init) 38 = .ok (.aload_n 0, 1) := by decide +kernel
theorem dX10_init_39 : decode (mC M_X10_init) 39 = .ok (.bipush 8, 2) := by decide +kernel
theorem dX10_init_41 : decode (mC M_X10_init) 41 = .ok (.newarray .int, 2) := by decide +kernel
theorem dX10_init_43 : decode (mC M_X10_init) 43 = .ok (.putfield 27, 3) := by decide +kernel
theorem dX10_init_46 : decode (mC M_X10_init) 46 = .ok (.aload_n 0, 1) := by decide +kernel
theorem dX10_init_47 : decode (mC M_X10_init) 47 = .ok (.bipush 6, 2) := by decide +kernel
theorem dX10_init_49 : decode (mC M_X10_init) 49 = .ok (.newarray .int, 2) := by decide +kernel
theorem dX10_init_51 : decode (mC M_X10_init) 51 = .ok (.putfield 30, 3) := by decide +kernel
theorem dX10_init_54 : decode (mC M_X10_init) 54 = .ok (.aload_n 0, 1) := by decide +kernel
theorem dX10_init_55 : decode (mC M_X10_init) 55 = .ok (.bipush 6, 2) := by decide +kernel
theorem dX10_init_57 : decode (mC M_X10_init) 57 = .ok (.newarray .int, 2) := by decide +kernel
theorem dX10_init_59 : decode (mC M_X10_init) 59 = .ok (.putfield 33, 3) := by decide +kernel
theorem dX10_init_62 : decode (mC M_X10_init) 62 = .ok (.aload_n 0, 1) := by decide +kernel
theorem dX10_init_63 : decode (mC M_X10_init) 63 = .ok (.bipush 6, 2) := by decide +kernel
theorem dX10_init_65 : decode (mC M_X10_init) 65 = .ok (.newarray .int, 2) := by decide +kernel
theorem dX10_init_67 : decode (mC M_X10_init) 67 = .ok (.putfield 36, 3) := by decide +kernel
theorem dX10_init_70 : decode (mC M_X10_init) 70 = .ok (.aload_n 0, 1) := by decide +kernel
theorem dX10_init_71 : decode (mC M_X10_init) 71 = .ok (.bipush 40, 2) := by decide +kernel
theorem dX10_init_73 : decode (mC M_X10_init) 73 = .ok (.newarray .int, 2) := by decide +kernel
theorem dX10_init_75 : decode (mC M_X10_init) 75 = .ok (.putfield 39, 3) := by decide +kernel
theorem dX10_init_78 : decode (mC M_X10_init) 78 = .ok (.aload_n 0, 1) := by decide +kernel
theorem dX10_init_79 : decode (mC M_X10_init) 79 = .ok (.bipush 20, 2) := by decide +kernel
theorem dX10_init_81 : decode (mC M_X10_init) 81 = .ok (.newarray .boolean, 2) := by decide +kernel
theorem dX10_init_83 : decode (mC M_X10_init) 83 = .ok (.putfield 42, 3) := by decide +kernel
theorem dX10_init_86 : decode (mC M_X10_init) 86 = .ok (.aload_n 0, 1) := by decide +kernel
theorem dX10_init_87 : decode (mC M_X10_init) 87 = .ok (.bipush 20, 2) := by decide +kernel
theorem dX10_init_89 : decode (mC M_X10_init) 89 = .ok (.newarray .int, 2) := by decide +kernel
theorem dX10_init_91 : decode (mC M_X10_init) 91 = .ok (.putfield 45, 3) := by decide +kernel
theorem dX10_init_94 : decode (mC M_X10_init) 94 = .ok (.aload_n 0, 1) := by decide +kernel
theorem dX10_init_95 : decode (mC M_X10_init) 95 = .ok (.bipush 20, 2) := by decide +kernel
theorem dX10_init_97 : decode (mC M_X10_init) 97 = .ok (.newarray .int, 2) := by decide +kernel
theorem dX10_init_99 : decode (mC M_X10_init) 99 = .ok (.putfield 48, 3) := by decide +kernel
theorem dX10_init_102 : decode (mC M_X10_init) 102 = .ok (.aload_n 0, 1) := by decide +kernel
theorem dX10_init_103 : decode (mC M_X10_init) 103 = .ok (.bipush 40, 2) := by decide +kernel
theorem dX10_init_105 : decode (mC M_X10_init) 105 = .ok (.newarray .int, 2) := by decide +kernel
theorem dX10_init_107 : decode (mC M_X10_init) 107 = .ok (.putfield 51, 3) := by decide +kernel
theorem dX10_init_110 : decode (mC M_X10_init) 110 = .ok (.aload_n 0, 1) := by decide +kernel
theorem dX10_init_111 : decode (mC M_X10_init) 111 = .ok (.bipush 20, 2) := by decide +kernel
theorem dX10_init_113 : decode (mC M_X10_init) 113 = .ok (.newarray .boolean, 2) := by decide +kernel
theorem dX10_init_115 : decode (mC M_X10_init) 115 = .ok (.putfield 54, 3) := by decide +kernel
theorem dX10_init_118 : decode (mC M_X10_init) 118 = .ok (.aload_n 0, 1) := by decide +kernel
theorem dX10_init_119 : decode (mC M_X10_init) 119 = .ok (.bipush 20, 2) := by decide +kernel
theorem dX10_init_121 : decode (mC M_X10_init) 121 = .ok (.newarray .int, 2) := by decide +kernel
theorem dX10_init_123 : decode (mC M_X10_init) 123 = .ok (.putfield 57, 3) := by decide +kernel
theorem dX10_init_126 : decode (mC M_X10_init) 126 = .ok (.aload_n 0, 1) := by decide +kernel
theorem dX10_init_127 : decode (mC M_X10_init) 127 = .ok (.sipush 160, 3) := by decide +kernel
theorem dX10_init_130 : decode (mC M_X10_init) 130 = .ok (.newarray .int, 2) := by decide +kernel
theorem dX10_init_132 : decode (mC M_X10_init) 132 = .ok (.putfield 60, 3) := by decide +kernel
theorem dX10_init_135 : decode (mC M_X10_init) 135 = .ok (.aload_n 0, 1) := by decide +kernel
theorem dX10_init_136 : decode (mC M_X10_init) 136 = .ok (.bipush 8, 2) := by decide +kernel
theorem dX10_init_138 : decode (mC M_X10_init) 138 = .ok (.newarray .int, 2) := by decide +kernel
theorem dX10_init_140 : decode (mC M_X10_init) 140 = .ok (.putfield 63, 3) := by decide +kernel
theorem dX10_init_143 : decode (mC M_X10_init) 143 = .ok (.aload_n 0, 1) := by decide +kernel
theorem dX10_init_144 : decode (mC M_X10_init) 144 = .ok (.bipush 8, 2) := by decide +kernel
theorem dX10_init_146 : decode (mC M_X10_init) 146 = .ok (.newarray .int, 2) := by decide +kernel
theorem dX10_init_148 : decode (mC M_X10_init) 148 = .ok (.putfield 66, 3) := by decide +kernel
theorem dX10_init_151 : decode (mC M_X10_init) 151 = .ok (.aload_n 0, 1) := by decide +kernel
theorem dX10_init_152 : decode (mC M_X10_init) 152 = .ok (.bipush 8, 2) := by decide +kernel
theorem dX10_init_154 : decode (mC M_X10_init) 154 = .ok (.newarray .int, 2) := by decide +kernel
theorem dX10_init_156 : decode (mC M_X10_init) 156 = .ok (.putfield 69, 3) := by decide +kernel
theorem dX10_init_159 : decode (mC M_X10_init) 159 = .ok (.return_, 1) := by decide +kernel
theorem dX10_thrown_0 : decode (mC M_X10_thrown) 0 = .ok (.aload_n 0, 1) := by decide +kernel
theorem dX10_thrown_1 : decode (mC M_X10_thrown) 1 = .ok (.getfield 72, 3) := by decide +kernel
theorem dX10_thrown_4 : decode (mC M_X10_thrown) 4 = .ok (.ireturn, 1) := by decide +kernel
theorem dX10_isIn_0 : decode (mC M_X10_isIn) 0 = .ok (.iload_n 0, 1) := by decide +kernel
theorem dX10_isIn_1 : decode (mC M_X10_isIn) 1 = .ok (.iload_n 1, 1) := by decide +kernel
theorem dX10_isIn_2 : decode (mC M_X10_isIn) 2 = .ok (.if_icmp .lt 12, 3) := by decide +kernel
theorem dX10_isIn_5 : decode (mC M_X10_isIn) 5 = .ok (.iload_n 0, 1) := by decide +kernel
theorem dX10_isIn_6 : decode (mC M_X10_isIn) 6 = .ok (.iload_n 2, 1) := by decide +kernel
theorem dX10_isIn_7 : decode (mC M_X10_isIn) 7 = .ok (.if_icmp .gt 7, 3) := by decide +kernel
theorem dX10_isIn_10 : decode (mC M_X10_isIn) 10 = .ok (.iconst 1, 1) := by decide +kernel
theorem dX10_isIn_11 : decode (mC M_X10_isIn) 11 = .ok (.goto 4, 3) := by decide +kernel
theorem dX10_isIn_14 : decode (mC M_X10_isIn) 14 = .ok (.iconst 0, 1) := by decide +kernel
theorem dX10_isIn_15 : decode (mC M_X10_isIn) 15 = .ok (.ireturn, 1) := by decide +kernel
theorem dX10_isTable_0 : decode (mC M_X10_isTable) 0 = .ok (.iload_n 0, 1) := by decide +kernel
theorem dX10_isTable_1 : decode (mC M_X10_isTable) 1 = .ok (.iconst 0, 1) := by decide +kernel
theorem dX10_isTable_2 : decode (mC M_X10_isTable) 2 = .ok (.iconst 3, 1) := by decide +kernel
theorem dX10_isTable_3 : decode (mC M_X10_isTable) 3 = .ok (.invokestatic 75, 3) := by decide +kernel
theorem dX10_isTable_6 : decode (mC M_X10_isTable) 6 = .ok (.ireturn, 1) := by decide +kernel
theorem dX10_isCustomer_0 : decode (mC M_X10_isCustomer) 0 = .ok (.iload_n 0, 1) := by decide +kernel
theorem dX10_isCustomer_1 : decode (mC M_X10_isCustomer) 1 = .ok (.iconst 0, 1) := by decide +kernel
theorem dX10_isCustomer_2 : decode (mC M_X10_isCustomer) 2 = .ok (.bipush 7, 2) := by decide +kernel
theorem dX10_isCustomer_4 : decode (mC M_X10_isCustomer) 4 = .ok (.invokestatic 75, 3) := by decide +kernel
theorem dX10_isCustomer_7 : decode (mC M_X10_isCustomer) 7 = .ok (.ireturn, 1) := by decide +kernel
theorem dX10_spot_0 : decode (mC M_X10_spot) 0 = .ok (.iload_n 0, 1) := by decide +kernel
theorem dX10_spot_1 : decode (mC M_X10_spot) 1 = .ok (.tableswitch 64 0 6 #[43, 46, 49, 52, 55, 58, 61], 43) := by decide +kernel
theorem dX10_spot_44 : decode (mC M_X10_spot) 44 = .ok (.bipush 67, 2) := by decide +kernel
theorem dX10_spot_46 : decode (mC M_X10_spot) 46 = .ok (.ireturn, 1) := by decide +kernel
theorem dX10_spot_47 : decode (mC M_X10_spot) 47 = .ok (.bipush 74, 2) := by decide +kernel
theorem dX10_spot_49 : decode (mC M_X10_spot) 49 = .ok (.ireturn, 1) := by decide +kernel
theorem dX10_spot_50 : decode (mC M_X10_spot) 50 = .ok (.bipush 59, 2) := by decide +kernel
theorem dX10_spot_52 : decode (mC M_X10_spot) 52 = .ok (.ireturn, 1) := by decide +kernel
theorem dX10_spot_53 : decode (mC M_X10_spot) 53 = .ok (.bipush 91, 2) := by decide +kernel
theorem dX10_spot_55 : decode (mC M_X10_spot) 55 = .ok (.ireturn, 1) := by decide +kernel
theorem dX10_spot_56 : decode (mC M_X10_spot) 56 = .ok (.bipush 44, 2) := by decide +kernel
theorem dX10_spot_58 : decode (mC M_X10_spot) 58 = .ok (.ireturn, 1) := by decide +kernel
theorem dX10_spot_59 : decode (mC M_X10_spot) 59 = .ok (.bipush 76, 2) := by decide +kernel
theorem dX10_spot_61 : decode (mC M_X10_spot) 61 = .ok (.ireturn, 1) := by decide +kernel
theorem dX10_spot_62 : decode (mC M_X10_spot) 62 = .ok (.bipush 108, 2) := by decide +kernel
theorem dX10_spot_64 : decode (mC M_X10_spot) 64 = .ok (.ireturn, 1) := by decide +kernel
theorem dX10_spot_65 : decode (mC M_X10_spot) 65 = .ok (.bipush 77, 2) := by decide +kernel
theorem dX10_spot_67 : decode (mC M_X10_spot) 67 = .ok (.ireturn, 1) := by decide +kernel
theorem dX10_isPocket_0 : decode (mC M_X10_isPocket) 0 = .ok (.iload_n 0, 1) := by decide +kernel
theorem dX10_isPocket_1 : decode (mC M_X10_isPocket) 1 = .ok (.bipush 16, 2) := by decide +kernel
theorem dX10_isPocket_3 : decode (mC M_X10_isPocket) 3 = .ok (.irem, 1) := by decide +kernel
theorem dX10_isPocket_4 : decode (mC M_X10_isPocket) 4 = .ok (.istore_n 1, 1) := by decide +kernel
theorem dX10_isPocket_5 : decode (mC M_X10_isPocket) 5 = .ok (.iload_n 0, 1) := by decide +kernel
theorem dX10_isPocket_6 : decode (mC M_X10_isPocket) 6 = .ok (.bipush 16, 2) := by decide +kernel
theorem dX10_isPocket_8 : decode (mC M_X10_isPocket) 8 = .ok (.idiv, 1) := by decide +kernel
theorem dX10_isPocket_9 : decode (mC M_X10_isPocket) 9 = .ok (.ifCond .eq 12, 3) := by decide +kernel
theorem dX10_isPocket_12 : decode (mC M_X10_isPocket) 12 = .ok (.iload_n 0, 1) := by decide +kernel
theorem dX10_isPocket_13 : decode (mC M_X10_isPocket) 13 = .ok (.bipush 16, 2) := by decide +kernel
theorem dX10_isPocket_15 : decode (mC M_X10_isPocket) 15 = .ok (.idiv, 1) := by decide +kernel
theorem dX10_isPocket_16 : decode (mC M_X10_isPocket) 16 = .ok (.bipush 7, 2) := by decide +kernel
theorem dX10_isPocket_18 : decode (mC M_X10_isPocket) 18 = .ok (.if_icmp .ne 23, 3) := by decide +kernel
theorem dX10_isPocket_21 : decode (mC M_X10_isPocket) 21 = .ok (.iload_n 1, 1) := by decide +kernel
theorem dX10_isPocket_22 : decode (mC M_X10_isPocket) 22 = .ok (.ifCond .eq 15, 3) := by decide +kernel
theorem dX10_isPocket_25 : decode (mC M_X10_isPocket) 25 = .ok (.iload_n 1, 1) := by decide +kernel
theorem dX10_isPocket_26 : decode (mC M_X10_isPocket) 26 = .ok (.bipush 7, 2) := by decide +kernel
theorem dX10_isPocket_28 : decode (mC M_X10_isPocket) 28 = .ok (.if_icmp .eq 9, 3) := by decide +kernel
theorem dX10_isPocket_31 : decode (mC M_X10_isPocket) 31 = .ok (.iload_n 1, 1) := by decide +kernel
theorem dX10_isPocket_32 : decode (mC M_X10_isPocket) 32 = .ok (.bipush 15, 2) := by decide +kernel
theorem dX10_isPocket_34 : decode (mC M_X10_isPocket) 34 = .ok (.if_icmp .ne 7, 3) := by decide +kernel
theorem dX10_isPocket_37 : decode (mC M_X10_isPocket) 37 = .ok (.iconst 1, 1) := by decide +kernel
theorem dX10_isPocket_38 : decode (mC M_X10_isPocket) 38 = .ok (.goto 4, 3) := by decide +kernel
theorem dX10_isPocket_41 : decode (mC M_X10_isPocket) 41 = .ok (.iconst 0, 1) := by decide +kernel
theorem dX10_isPocket_42 : decode (mC M_X10_isPocket) 42 = .ok (.ireturn, 1) := by decide +kernel
theorem dX10_setPrice_0 : decode (mC M_X10_setPrice) 0 = .ok (.aload_n 0, 1) := by decide +kernel
theorem dX10_setPrice_1 : decode (mC M_X10_setPrice) 1 = .ok (.iload_n 1, 1) := by decide +kernel
theorem dX10_setPrice_2 : decode (mC M_X10_setPrice) 2 = .ok (.iconst 0, 1) := by decide +kernel
theorem dX10_setPrice_3 : decode (mC M_X10_setPrice) 3 = .ok (.bipush 50, 2) := by decide +kernel
theorem dX10_setPrice_5 : decode (mC M_X10_setPrice) 5 = .ok (.invokestatic 75, 3) := by decide +kernel
theorem dX10_setPrice_8 : decode (mC M_X10_setPrice) 8 = .ok (.ifCond .eq 7, 3) := by decide +kernel
theorem dX10_setPrice_11 : decode (mC M_X10_setPrice) 11 = .ok (.iconst 0, 1) := by decide +kernel
theorem dX10_setPrice_12 : decode (mC M_X10_setPrice) 12 = .ok (.goto 4, 3) := by decide +kernel
theorem dX10_setPrice_15 : decode (mC M_X10_setPrice) 15 = .ok (.iconst 1, 1) := by decide +kernel
theorem dX10_setPrice_16 : decode (mC M_X10_setPrice) 16 = .ok (.putfield 72, 3) := by decide +kernel
theorem dX10_setPrice_19 : decode (mC M_X10_setPrice) 19 = .ok (.aload_n 0, 1) := by decide +kernel
theorem dX10_setPrice_20 : decode (mC M_X10_setPrice) 20 = .ok (.getfield 72, 3) := by decide +kernel
theorem dX10_setPrice_23 : decode (mC M_X10_setPrice) 23 = .ok (.ifCond .le 5, 3) := by decide +kernel
theorem dX10_setPrice_26 : decode (mC M_X10_setPrice) 26 = .ok (.iconst 0, 1) := by decide +kernel
theorem dX10_setPrice_27 : decode (mC M_X10_setPrice) 27 = .ok (.ireturn, 1) := by decide +kernel
theorem dX10_setPrice_28 : decode (mC M_X10_setPrice) 28 = .ok (.aload_n 0, 1) := by decide +kernel
theorem dX10_setPrice_29 : decode (mC M_X10_setPrice) 29 = .ok (.getfield 7, 3) := by decide +kernel
theorem dX10_setPrice_32 : decode (mC M_X10_setPrice) 32 = .ok (.istore_n 2, 1) := by decide +kernel
theorem dX10_setPrice_33 : decode (mC M_X10_setPrice) 33 = .ok (.aload_n 0, 1) := by decide +kernel
theorem dX10_setPrice_34 : decode (mC M_X10_setPrice) 34 = .ok (.iload_n 1, 1) := by decide +kernel
theorem dX10_setPrice_35 : decode (mC M_X10_setPrice) 35 = .ok (.putfield 7, 3) := by decide +kernel
theorem dX10_setPrice_38 : decode (mC M_X10_setPrice) 38 = .ok (.iload_n 2, 1) := by decide +kernel
theorem dX10_setPrice_39 : decode (mC M_X10_setPrice) 39 = .ok (.ireturn, 1) := by decide +kernel
theorem dX10_tableOf_0 : decode (mC M_X10_tableOf) 0 = .ok (.iconst (-1), 1) := by decide +kernel
theorem dX10_tableOf_1 : decode (mC M_X10_tableOf) 1 = .ok (.istore_n 2, 1) := by decide +kernel
theorem dX10_tableOf_2 : decode (mC M_X10_tableOf) 2 = .ok (.iconst 0, 1) := by decide +kernel
theorem dX10_tableOf_3 : decode (mC M_X10_tableOf) 3 = .ok (.istore_n 3, 1) := by decide +kernel
theorem dX10_tableOf_4 : decode (mC M_X10_tableOf) 4 = .ok (.iload_n 3, 1) := by decide +kernel
theorem dX10_tableOf_5 : decode (mC M_X10_tableOf) 5 = .ok (.iconst 4, 1) := by decide +kernel
theorem dX10_tableOf_6 : decode (mC M_X10_tableOf) 6 = .ok (.if_icmp .ge 27, 3) := by decide +kernel
theorem dX10_tableOf_9 : decode (mC M_X10_tableOf) 9 = .ok (.aload_n 0, 1) := by decide +kernel
theorem dX10_tableOf_10 : decode (mC M_X10_tableOf) 10 = .ok (.getfield 17, 3) := by decide +kernel
theorem dX10_tableOf_13 : decode (mC M_X10_tableOf) 13 = .ok (.iload_n 3, 1) := by decide +kernel
theorem dX10_tableOf_14 : decode (mC M_X10_tableOf) 14 = .ok (.iaload, 1) := by decide +kernel
theorem dX10_tableOf_15 : decode (mC M_X10_tableOf) 15 = .ok (.iload_n 1, 1) := by decide +kernel
theorem dX10_tableOf_16 : decode (mC M_X10_tableOf) 16 = .ok (.iconst 1, 1) := by decide +kernel
theorem dX10_tableOf_17 : decode (mC M_X10_tableOf) 17 = .ok (.iadd, 1) := by decide +kernel
theorem dX10_tableOf_18 : decode (mC M_X10_tableOf) 18 = .ok (.if_icmp .ne 7, 3) := by decide +kernel
theorem dX10_tableOf_21 : decode (mC M_X10_tableOf) 21 = .ok (.iload_n 3, 1) := by decide +kernel
theorem dX10_tableOf_22 : decode (mC M_X10_tableOf) 22 = .ok (.goto 4, 3) := by decide +kernel
theorem dX10_tableOf_25 : decode (mC M_X10_tableOf) 25 = .ok (.iload_n 2, 1) := by decide +kernel
theorem dX10_tableOf_26 : decode (mC M_X10_tableOf) 26 = .ok (.istore_n 2, 1) := by decide +kernel
theorem dX10_tableOf_27 : decode (mC M_X10_tableOf) 27 = .ok (.iinc 3 1, 3) := by decide +kernel
theorem dX10_tableOf_30 : decode (mC M_X10_tableOf) 30 = .ok (.goto (-26), 3) := by decide +kernel
theorem dX10_tableOf_33 : decode (mC M_X10_tableOf) 33 = .ok (.iload_n 2, 1) := by decide +kernel
theorem dX10_tableOf_34 : decode (mC M_X10_tableOf) 34 = .ok (.ireturn, 1) := by decide +kernel
theorem dX10_rent_0 : decode (mC M_X10_rent) 0 = .ok (.aload_n 0, 1) := by decide +kernel
theorem dX10_rent_1 : decode (mC M_X10_rent) 1 = .ok (.iload_n 1, 1) := by decide +kernel
theorem dX10_rent_2 : decode (mC M_X10_rent) 2 = .ok (.invokestatic 79, 3) := by decide +kernel
theorem dX10_rent_5 : decode (mC M_X10_rent) 5 = .ok (.ifCond .eq 14, 3) := by decide +kernel
theorem dX10_rent_8 : decode (mC M_X10_rent) 8 = .ok (.iload_n 2, 1) := by decide +kernel
theorem dX10_rent_9 : decode (mC M_X10_rent) 9 = .ok (.invokestatic 83, 3) := by decide +kernel
theorem dX10_rent_12 : decode (mC M_X10_rent) 12 = .ok (.ifCond .eq 7, 3) := by decide +kernel
theorem dX10_rent_15 : decode (mC M_X10_rent) 15 = .ok (.iconst 0, 1) := by decide +kernel
theorem dX10_rent_16 : decode (mC M_X10_rent) 16 = .ok (.goto 4, 3) := by decide +kernel
theorem dX10_rent_19 : decode (mC M_X10_rent) 19 = .ok (.iconst 1, 1) := by decide +kernel
theorem dX10_rent_20 : decode (mC M_X10_rent) 20 = .ok (.putfield 72, 3) := by decide +kernel
theorem dX10_rent_23 : decode (mC M_X10_rent) 23 = .ok (.aload_n 0, 1) := by decide +kernel
theorem dX10_rent_24 : decode (mC M_X10_rent) 24 = .ok (.getfield 72, 3) := by decide +kernel
theorem dX10_rent_27 : decode (mC M_X10_rent) 27 = .ok (.ifCond .le 5, 3) := by decide +kernel
theorem dX10_rent_30 : decode (mC M_X10_rent) 30 = .ok (.iconst 0, 1) := by decide +kernel
theorem dX10_rent_31 : decode (mC M_X10_rent) 31 = .ok (.ireturn, 1) := by decide +kernel
theorem dX10_rent_32 : decode (mC M_X10_rent) 32 = .ok (.aload_n 0, 1) := by decide +kernel
theorem dX10_rent_33 : decode (mC M_X10_rent) 33 = .ok (.aload_n 0, 1) := by decide +kernel
theorem dX10_rent_34 : decode (mC M_X10_rent) 34 = .ok (.getfield 13, 3) := by decide +kernel
theorem dX10_rent_37 : decode (mC M_X10_rent) 37 = .ok (.iload_n 1, 1) := by decide +kernel
theorem dX10_rent_38 : decode (mC M_X10_rent) 38 = .ok (.baload, 1) := by decide +kernel
theorem dX10_rent_39 : decode (mC M_X10_rent) 39 = .ok (.ifCond .ne 20, 3) := by decide +kernel
theorem dX10_rent_42 : decode (mC M_X10_rent) 42 = .ok (.aload_n 0, 1) := by decide +kernel
theorem dX10_rent_43 : decode (mC M_X10_rent) 43 = .ok (.getfield 17, 3) := by decide +kernel
theorem dX10_rent_46 : decode (mC M_X10_rent) 46 = .ok (.iload_n 1, 1) := by decide +kernel
theorem dX10_rent_47 : decode (mC M_X10_rent) 47 = .ok (.iaload, 1) := by decide +kernel
theorem dX10_rent_48 : decode (mC M_X10_rent) 48 = .ok (.ifCond .gt 11, 3) := by decide +kernel
theorem dX10_rent_51 : decode (mC M_X10_rent) 51 = .ok (.aload_n 0, 1) := by decide +kernel
theorem dX10_rent_52 : decode (mC M_X10_rent) 52 = .ok (.iload_n 2, 1) := by decide +kernel
theorem dX10_rent_53 : decode (mC M_X10_rent) 53 = .ok (.invokevirtual 86, 3) := by decide +kernel
theorem dX10_rent_56 : decode (mC M_X10_rent) 56 = .ok (.ifCond .lt 7, 3) := by decide +kernel
theorem dX10_rent_59 : decode (mC M_X10_rent) 59 = .ok (.iconst 2, 1) := by decide +kernel
theorem dX10_rent_60 : decode (mC M_X10_rent) 60 = .ok (.goto 4, 3) := by decide +kernel
theorem dX10_rent_63 : decode (mC M_X10_rent) 63 = .ok (.iconst 0, 1) := by decide +kernel
theorem dX10_rent_64 : decode (mC M_X10_rent) 64 = .ok (.putfield 72, 3) := by decide +kernel
theorem dX10_rent_67 : decode (mC M_X10_rent) 67 = .ok (.aload_n 0, 1) := by decide +kernel
theorem dX10_rent_68 : decode (mC M_X10_rent) 68 = .ok (.getfield 72, 3) := by decide +kernel
theorem dX10_rent_71 : decode (mC M_X10_rent) 71 = .ok (.ifCond .le 5, 3) := by decide +kernel
theorem dX10_rent_74 : decode (mC M_X10_rent) 74 = .ok (.iconst 0, 1) := by decide +kernel
theorem dX10_rent_75 : decode (mC M_X10_rent) 75 = .ok (.ireturn, 1) := by decide +kernel
theorem dX10_rent_76 : decode (mC M_X10_rent) 76 = .ok (.aload_n 0, 1) := by decide +kernel
theorem dX10_rent_77 : decode (mC M_X10_rent) 77 = .ok (.getfield 17, 3) := by decide +kernel
theorem dX10_rent_80 : decode (mC M_X10_rent) 80 = .ok (.iload_n 1, 1) := by decide +kernel
theorem dX10_rent_81 : decode (mC M_X10_rent) 81 = .ok (.iload_n 2, 1) := by decide +kernel
theorem dX10_rent_82 : decode (mC M_X10_rent) 82 = .ok (.iconst 1, 1) := by decide +kernel
theorem dX10_rent_83 : decode (mC M_X10_rent) 83 = .ok (.iadd, 1) := by decide +kernel
theorem dX10_rent_84 : decode (mC M_X10_rent) 84 = .ok (.iastore, 1) := by decide +kernel
theorem dX10_rent_85 : decode (mC M_X10_rent) 85 = .ok (.aload_n 0, 1) := by decide +kernel
theorem dX10_rent_86 : decode (mC M_X10_rent) 86 = .ok (.getfield 24, 3) := by decide +kernel
theorem dX10_rent_89 : decode (mC M_X10_rent) 89 = .ok (.iload_n 1, 1) := by decide +kernel
theorem dX10_rent_90 : decode (mC M_X10_rent) 90 = .ok (.iconst 0, 1) := by decide +kernel
theorem dX10_rent_91 : decode (mC M_X10_rent) 91 = .ok (.iastore, 1) := by decide +kernel
theorem dX10_rent_92 : decode (mC M_X10_rent) 92 = .ok (.iconst 0, 1) := by decide +kernel
theorem dX10_rent_93 : decode (mC M_X10_rent) 93 = .ok (.istore_n 3, 1) := by decide +kernel
theorem dX10_rent_94 : decode (mC M_X10_rent) 94 = .ok (.iconst 0, 1) := by decide +kernel
theorem dX10_rent_95 : decode (mC M_X10_rent) 95 = .ok (.istore 4, 2) := by decide +kernel
theorem dX10_rent_97 : decode (mC M_X10_rent) 97 = .ok (.iload 4, 2) := by decide +kernel
theorem dX10_rent_99 : decode (mC M_X10_rent) 99 = .ok (.iconst 4, 1) := by decide +kernel
theorem dX10_rent_100 : decode (mC M_X10_rent) 100 = .ok (.if_icmp .ge 27, 3) := by decide +kernel
theorem dX10_rent_103 : decode (mC M_X10_rent) 103 = .ok (.iload_n 3, 1) := by decide +kernel
theorem dX10_rent_104 : decode (mC M_X10_rent) 104 = .ok (.aload_n 0, 1) := by decide +kernel
theorem dX10_rent_105 : decode (mC M_X10_rent) 105 = .ok (.getfield 17, 3) := by decide +kernel
theorem dX10_rent_108 : decode (mC M_X10_rent) 108 = .ok (.iload 4, 2) := by decide +kernel
theorem dX10_rent_110 : decode (mC M_X10_rent) 110 = .ok (.iaload, 1) := by decide +kernel
theorem dX10_rent_111 : decode (mC M_X10_rent) 111 = .ok (.ifCond .le 7, 3) := by decide +kernel
theorem dX10_rent_114 : decode (mC M_X10_rent) 114 = .ok (.iconst 1, 1) := by decide +kernel
theorem dX10_rent_115 : decode (mC M_X10_rent) 115 = .ok (.goto 4, 3) := by decide +kernel
theorem dX10_rent_118 : decode (mC M_X10_rent) 118 = .ok (.iconst 0, 1) := by decide +kernel
theorem dX10_rent_119 : decode (mC M_X10_rent) 119 = .ok (.iadd, 1) := by decide +kernel
theorem dX10_rent_120 : decode (mC M_X10_rent) 120 = .ok (.istore_n 3, 1) := by decide +kernel
theorem dX10_rent_121 : decode (mC M_X10_rent) 121 = .ok (.iinc 4 1, 3) := by decide +kernel
theorem dX10_rent_124 : decode (mC M_X10_rent) 124 = .ok (.goto (-27), 3) := by decide +kernel
theorem dX10_rent_127 : decode (mC M_X10_rent) 127 = .ok (.iload_n 3, 1) := by decide +kernel
theorem dX10_rent_128 : decode (mC M_X10_rent) 128 = .ok (.ireturn, 1) := by decide +kernel
theorem dX10_asksTable_0 : decode (mC M_X10_asksTable) 0 = .ok (.aload_n 0, 1) := by decide +kernel
theorem dX10_asksTable_1 : decode (mC M_X10_asksTable) 1 = .ok (.iload_n 1, 1) := by decide +kernel
theorem dX10_asksTable_2 : decode (mC M_X10_asksTable) 2 = .ok (.invokestatic 79, 3) := by decide +kernel
theorem dX10_asksTable_5 : decode (mC M_X10_asksTable) 5 = .ok (.ifCond .eq 7, 3) := by decide +kernel
theorem dX10_asksTable_8 : decode (mC M_X10_asksTable) 8 = .ok (.iconst 0, 1) := by decide +kernel
theorem dX10_asksTable_9 : decode (mC M_X10_asksTable) 9 = .ok (.goto 4, 3) := by decide +kernel
theorem dX10_asksTable_12 : decode (mC M_X10_asksTable) 12 = .ok (.iconst 1, 1) := by decide +kernel
theorem dX10_asksTable_13 : decode (mC M_X10_asksTable) 13 = .ok (.putfield 72, 3) := by decide +kernel
theorem dX10_asksTable_16 : decode (mC M_X10_asksTable) 16 = .ok (.aload_n 0, 1) := by decide +kernel
theorem dX10_asksTable_17 : decode (mC M_X10_asksTable) 17 = .ok (.getfield 72, 3) := by decide +kernel
theorem dX10_asksTable_20 : decode (mC M_X10_asksTable) 20 = .ok (.ifCond .ne 7, 3) := by decide +kernel
theorem dX10_asksTable_23 : decode (mC M_X10_asksTable) 23 = .ok (.iconst 1, 1) := by decide +kernel
theorem dX10_asksTable_24 : decode (mC M_X10_asksTable) 24 = .ok (.goto 4, 3) := by decide +kernel
theorem dX10_asksTable_27 : decode (mC M_X10_asksTable) 27 = .ok (.iconst 0, 1) := by decide +kernel
theorem dX10_asksTable_28 : decode (mC M_X10_asksTable) 28 = .ok (.ireturn, 1) := by decide +kernel
theorem dX10_clears_0 : decode (mC M_X10_clears) 0 = .ok (.aload_n 0, 1) := by decide +kernel
theorem dX10_clears_1 : decode (mC M_X10_clears) 1 = .ok (.getfield 21, 3) := by decide +kernel
theorem dX10_clears_4 : decode (mC M_X10_clears) 4 = .ok (.iload_n 1, 1) := by decide +kernel
theorem dX10_clears_5 : decode (mC M_X10_clears) 5 = .ok (.iaload, 1) := by decide +kernel
theorem dX10_clears_6 : decode (mC M_X10_clears) 6 = .ok (.ifCond .le 24, 3) := by decide +kernel
theorem dX10_clears_9 : decode (mC M_X10_clears) 9 = .ok (.aload_n 0, 1) := by decide +kernel
theorem dX10_clears_10 : decode (mC M_X10_clears) 10 = .ok (.getfield 45, 3) := by decide +kernel
theorem dX10_clears_13 : decode (mC M_X10_clears) 13 = .ok (.aload_n 0, 1) := by decide +kernel
theorem dX10_clears_14 : decode (mC M_X10_clears) 14 = .ok (.getfield 21, 3) := by decide +kernel
theorem dX10_clears_17 : decode (mC M_X10_clears) 17 = .ok (.iload_n 1, 1) := by decide +kernel
theorem dX10_clears_18 : decode (mC M_X10_clears) 18 = .ok (.iaload, 1) := by decide +kernel
theorem dX10_clears_19 : decode (mC M_X10_clears) 19 = .ok (.iconst 1, 1) := by decide +kernel
theorem dX10_clears_20 : decode (mC M_X10_clears) 20 = .ok (.isub, 1) := by decide +kernel
theorem dX10_clears_21 : decode (mC M_X10_clears) 21 = .ok (.iconst 1, 1) := by decide +kernel
theorem dX10_clears_22 : decode (mC M_X10_clears) 22 = .ok (.iastore, 1) := by decide +kernel
theorem dX10_clears_23 : decode (mC M_X10_clears) 23 = .ok (.aload_n 0, 1) := by decide +kernel
theorem dX10_clears_24 : decode (mC M_X10_clears) 24 = .ok (.getfield 21, 3) := by decide +kernel
theorem dX10_clears_27 : decode (mC M_X10_clears) 27 = .ok (.iload_n 1, 1) := by decide +kernel
theorem dX10_clears_28 : decode (mC M_X10_clears) 28 = .ok (.iconst 0, 1) := by decide +kernel
theorem dX10_clears_29 : decode (mC M_X10_clears) 29 = .ok (.iastore, 1) := by decide +kernel
theorem dX10_clears_30 : decode (mC M_X10_clears) 30 = .ok (.return_, 1) := by decide +kernel
theorem dX10_ends_0 : decode (mC M_X10_ends) 0 = .ok (.aload_n 0, 1) := by decide +kernel
theorem dX10_ends_1 : decode (mC M_X10_ends) 1 = .ok (.getfield 17, 3) := by decide +kernel
theorem dX10_ends_4 : decode (mC M_X10_ends) 4 = .ok (.iload_n 1, 1) := by decide +kernel
theorem dX10_ends_5 : decode (mC M_X10_ends) 5 = .ok (.iaload, 1) := by decide +kernel
theorem dX10_ends_6 : decode (mC M_X10_ends) 6 = .ok (.ifCond .ne 5, 3) := by decide +kernel
theorem dX10_ends_9 : decode (mC M_X10_ends) 9 = .ok (.iconst 0, 1) := by decide +kernel
theorem dX10_ends_10 : decode (mC M_X10_ends) 10 = .ok (.ireturn, 1) := by decide +kernel
theorem dX10_ends_11 : decode (mC M_X10_ends) 11 = .ok (.aload_n 0, 1) := by decide +kernel
theorem dX10_ends_12 : decode (mC M_X10_ends) 12 = .ok (.getfield 7, 3) := by decide +kernel
theorem dX10_ends_15 : decode (mC M_X10_ends) 15 = .ok (.aload_n 0, 1) := by decide +kernel
theorem dX10_ends_16 : decode (mC M_X10_ends) 16 = .ok (.getfield 24, 3) := by decide +kernel
theorem dX10_ends_19 : decode (mC M_X10_ends) 19 = .ok (.iload_n 1, 1) := by decide +kernel
theorem dX10_ends_20 : decode (mC M_X10_ends) 20 = .ok (.iaload, 1) := by decide +kernel
theorem dX10_ends_21 : decode (mC M_X10_ends) 21 = .ok (.bipush 9, 2) := by decide +kernel
theorem dX10_ends_23 : decode (mC M_X10_ends) 23 = .ok (.iadd, 1) := by decide +kernel
theorem dX10_ends_24 : decode (mC M_X10_ends) 24 = .ok (.bipush 10, 2) := by decide +kernel
theorem dX10_ends_26 : decode (mC M_X10_ends) 26 = .ok (.idiv, 1) := by decide +kernel
theorem dX10_ends_27 : decode (mC M_X10_ends) 27 = .ok (.imul, 1) := by decide +kernel
theorem dX10_ends_28 : decode (mC M_X10_ends) 28 = .ok (.istore_n 2, 1) := by decide +kernel
theorem dX10_ends_29 : decode (mC M_X10_ends) 29 = .ok (.aload_n 0, 1) := by decide +kernel
theorem dX10_ends_30 : decode (mC M_X10_ends) 30 = .ok (.getfield 27, 3) := by decide +kernel
theorem dX10_ends_33 : decode (mC M_X10_ends) 33 = .ok (.aload_n 0, 1) := by decide +kernel
theorem dX10_ends_34 : decode (mC M_X10_ends) 34 = .ok (.getfield 17, 3) := by decide +kernel
theorem dX10_ends_37 : decode (mC M_X10_ends) 37 = .ok (.iload_n 1, 1) := by decide +kernel
theorem dX10_ends_38 : decode (mC M_X10_ends) 38 = .ok (.iaload, 1) := by decide +kernel
theorem dX10_ends_39 : decode (mC M_X10_ends) 39 = .ok (.iconst 1, 1) := by decide +kernel
theorem dX10_ends_40 : decode (mC M_X10_ends) 40 = .ok (.isub, 1) := by decide +kernel
theorem dX10_ends_41 : decode (mC M_X10_ends) 41 = .ok (.dup2, 1) := by decide +kernel
theorem dX10_ends_42 : decode (mC M_X10_ends) 42 = .ok (.iaload, 1) := by decide +kernel
theorem dX10_ends_43 : decode (mC M_X10_ends) 43 = .ok (.iload_n 2, 1) := by decide +kernel
theorem dX10_ends_44 : decode (mC M_X10_ends) 44 = .ok (.iadd, 1) := by decide +kernel
theorem dX10_ends_45 : decode (mC M_X10_ends) 45 = .ok (.iastore, 1) := by decide +kernel
theorem dX10_ends_46 : decode (mC M_X10_ends) 46 = .ok (.aload_n 0, 1) := by decide +kernel
theorem dX10_ends_47 : decode (mC M_X10_ends) 47 = .ok (.getfield 17, 3) := by decide +kernel
theorem dX10_ends_50 : decode (mC M_X10_ends) 50 = .ok (.iload_n 1, 1) := by decide +kernel
theorem dX10_ends_51 : decode (mC M_X10_ends) 51 = .ok (.iconst 0, 1) := by decide +kernel
theorem dX10_ends_52 : decode (mC M_X10_ends) 52 = .ok (.iastore, 1) := by decide +kernel
theorem dX10_ends_53 : decode (mC M_X10_ends) 53 = .ok (.aload_n 0, 1) := by decide +kernel
theorem dX10_ends_54 : decode (mC M_X10_ends) 54 = .ok (.getfield 24, 3) := by decide +kernel
theorem dX10_ends_57 : decode (mC M_X10_ends) 57 = .ok (.iload_n 1, 1) := by decide +kernel
theorem dX10_ends_58 : decode (mC M_X10_ends) 58 = .ok (.iconst 0, 1) := by decide +kernel
theorem dX10_ends_59 : decode (mC M_X10_ends) 59 = .ok (.iastore, 1) := by decide +kernel
theorem dX10_ends_60 : decode (mC M_X10_ends) 60 = .ok (.aload_n 0, 1) := by decide +kernel
theorem dX10_ends_61 : decode (mC M_X10_ends) 61 = .ok (.getfield 21, 3) := by decide +kernel
theorem dX10_ends_64 : decode (mC M_X10_ends) 64 = .ok (.iload_n 1, 1) := by decide +kernel
theorem dX10_ends_65 : decode (mC M_X10_ends) 65 = .ok (.iaload, 1) := by decide +kernel
theorem dX10_ends_66 : decode (mC M_X10_ends) 66 = .ok (.ifCond .le 24, 3) := by decide +kernel
theorem dX10_ends_69 : decode (mC M_X10_ends) 69 = .ok (.aload_n 0, 1) := by decide +kernel
theorem dX10_ends_70 : decode (mC M_X10_ends) 70 = .ok (.getfield 42, 3) := by decide +kernel
theorem dX10_ends_73 : decode (mC M_X10_ends) 73 = .ok (.aload_n 0, 1) := by decide +kernel
theorem dX10_ends_74 : decode (mC M_X10_ends) 74 = .ok (.getfield 21, 3) := by decide +kernel
theorem dX10_ends_77 : decode (mC M_X10_ends) 77 = .ok (.iload_n 1, 1) := by decide +kernel
theorem dX10_ends_78 : decode (mC M_X10_ends) 78 = .ok (.iaload, 1) := by decide +kernel
theorem dX10_ends_79 : decode (mC M_X10_ends) 79 = .ok (.iconst 1, 1) := by decide +kernel
theorem dX10_ends_80 : decode (mC M_X10_ends) 80 = .ok (.isub, 1) := by decide +kernel
theorem dX10_ends_81 : decode (mC M_X10_ends) 81 = .ok (.baload, 1) := by decide +kernel
theorem dX10_ends_82 : decode (mC M_X10_ends) 82 = .ok (.ifCond .ne 8, 3) := by decide +kernel
theorem dX10_ends_85 : decode (mC M_X10_ends) 85 = .ok (.aload_n 0, 1) := by decide +kernel
theorem dX10_ends_86 : decode (mC M_X10_ends) 86 = .ok (.iload_n 1, 1) := by decide +kernel
theorem dX10_ends_87 : decode (mC M_X10_ends) 87 = .ok (.invokevirtual 90, 3) := by decide +kernel
theorem dX10_ends_90 : decode (mC M_X10_ends) 90 = .ok (.iload_n 2, 1) := by decide +kernel
theorem dX10_ends_91 : decode (mC M_X10_ends) 91 = .ok (.ireturn, 1) := by decide +kernel
theorem dX10_end_0 : decode (mC M_X10_end) 0 = .ok (.aload_n 0, 1) := by decide +kernel
theorem dX10_end_1 : decode (mC M_X10_end) 1 = .ok (.iload_n 1, 1) := by decide +kernel
theorem dX10_end_2 : decode (mC M_X10_end) 2 = .ok (.invokevirtual 94, 3) := by decide +kernel
theorem dX10_end_5 : decode (mC M_X10_end) 5 = .ok (.ifCond .ne 5, 3) := by decide +kernel
theorem dX10_end_8 : decode (mC M_X10_end) 8 = .ok (.iconst 0, 1) := by decide +kernel
theorem dX10_end_9 : decode (mC M_X10_end) 9 = .ok (.ireturn, 1) := by decide +kernel
theorem dX10_end_10 : decode (mC M_X10_end) 10 = .ok (.aload_n 0, 1) := by decide +kernel
theorem dX10_end_11 : decode (mC M_X10_end) 11 = .ok (.aload_n 0, 1) := by decide +kernel
theorem dX10_end_12 : decode (mC M_X10_end) 12 = .ok (.getfield 17, 3) := by decide +kernel
theorem dX10_end_15 : decode (mC M_X10_end) 15 = .ok (.iload_n 1, 1) := by decide +kernel
theorem dX10_end_16 : decode (mC M_X10_end) 16 = .ok (.iaload, 1) := by decide +kernel
theorem dX10_end_17 : decode (mC M_X10_end) 17 = .ok (.ifCond .ne 7, 3) := by decide +kernel
theorem dX10_end_20 : decode (mC M_X10_end) 20 = .ok (.iconst 2, 1) := by decide +kernel
theorem dX10_end_21 : decode (mC M_X10_end) 21 = .ok (.goto 4, 3) := by decide +kernel
theorem dX10_end_24 : decode (mC M_X10_end) 24 = .ok (.iconst 0, 1) := by decide +kernel
theorem dX10_end_25 : decode (mC M_X10_end) 25 = .ok (.putfield 72, 3) := by decide +kernel
theorem dX10_end_28 : decode (mC M_X10_end) 28 = .ok (.aload_n 0, 1) := by decide +kernel
theorem dX10_end_29 : decode (mC M_X10_end) 29 = .ok (.getfield 72, 3) := by decide +kernel
theorem dX10_end_32 : decode (mC M_X10_end) 32 = .ok (.ifCond .le 7, 3) := by decide +kernel
theorem dX10_end_35 : decode (mC M_X10_end) 35 = .ok (.iconst 0, 1) := by decide +kernel
theorem dX10_end_36 : decode (mC M_X10_end) 36 = .ok (.goto 8, 3) := by decide +kernel
theorem dX10_end_39 : decode (mC M_X10_end) 39 = .ok (.aload_n 0, 1) := by decide +kernel
theorem dX10_end_40 : decode (mC M_X10_end) 40 = .ok (.iload_n 1, 1) := by decide +kernel
theorem dX10_end_41 : decode (mC M_X10_end) 41 = .ok (.invokevirtual 97, 3) := by decide +kernel
theorem dX10_end_44 : decode (mC M_X10_end) 44 = .ok (.ireturn, 1) := by decide +kernel
theorem dX10_tear_0 : decode (mC M_X10_tear) 0 = .ok (.aload_n 0, 1) := by decide +kernel
theorem dX10_tear_1 : decode (mC M_X10_tear) 1 = .ok (.iload_n 1, 1) := by decide +kernel
theorem dX10_tear_2 : decode (mC M_X10_tear) 2 = .ok (.invokevirtual 94, 3) := by decide +kernel
theorem dX10_tear_5 : decode (mC M_X10_tear) 5 = .ok (.ifCond .ne 5, 3) := by decide +kernel
theorem dX10_tear_8 : decode (mC M_X10_tear) 8 = .ok (.iconst 0, 1) := by decide +kernel
theorem dX10_tear_9 : decode (mC M_X10_tear) 9 = .ok (.ireturn, 1) := by decide +kernel
theorem dX10_tear_10 : decode (mC M_X10_tear) 10 = .ok (.aload_n 0, 1) := by decide +kernel
theorem dX10_tear_11 : decode (mC M_X10_tear) 11 = .ok (.aload_n 0, 1) := by decide +kernel
theorem dX10_tear_12 : decode (mC M_X10_tear) 12 = .ok (.getfield 13, 3) := by decide +kernel
theorem dX10_tear_15 : decode (mC M_X10_tear) 15 = .ok (.iload_n 1, 1) := by decide +kernel
theorem dX10_tear_16 : decode (mC M_X10_tear) 16 = .ok (.baload, 1) := by decide +kernel
theorem dX10_tear_17 : decode (mC M_X10_tear) 17 = .ok (.ifCond .eq 7, 3) := by decide +kernel
theorem dX10_tear_20 : decode (mC M_X10_tear) 20 = .ok (.iconst 2, 1) := by decide +kernel
theorem dX10_tear_21 : decode (mC M_X10_tear) 21 = .ok (.goto 4, 3) := by decide +kernel
theorem dX10_tear_24 : decode (mC M_X10_tear) 24 = .ok (.iconst 0, 1) := by decide +kernel
theorem dX10_tear_25 : decode (mC M_X10_tear) 25 = .ok (.putfield 72, 3) := by decide +kernel
theorem dX10_tear_28 : decode (mC M_X10_tear) 28 = .ok (.aload_n 0, 1) := by decide +kernel
theorem dX10_tear_29 : decode (mC M_X10_tear) 29 = .ok (.getfield 72, 3) := by decide +kernel
theorem dX10_tear_32 : decode (mC M_X10_tear) 32 = .ok (.ifCond .le 5, 3) := by decide +kernel
theorem dX10_tear_35 : decode (mC M_X10_tear) 35 = .ok (.iconst 0, 1) := by decide +kernel
theorem dX10_tear_36 : decode (mC M_X10_tear) 36 = .ok (.ireturn, 1) := by decide +kernel
theorem dX10_tear_37 : decode (mC M_X10_tear) 37 = .ok (.aload_n 0, 1) := by decide +kernel
theorem dX10_tear_38 : decode (mC M_X10_tear) 38 = .ok (.iload_n 1, 1) := by decide +kernel
theorem dX10_tear_39 : decode (mC M_X10_tear) 39 = .ok (.invokevirtual 97, 3) := by decide +kernel
theorem dX10_tear_42 : decode (mC M_X10_tear) 42 = .ok (.istore_n 2, 1) := by decide +kernel
theorem dX10_tear_43 : decode (mC M_X10_tear) 43 = .ok (.aload_n 0, 1) := by decide +kernel
theorem dX10_tear_44 : decode (mC M_X10_tear) 44 = .ok (.iload_n 1, 1) := by decide +kernel
theorem dX10_tear_45 : decode (mC M_X10_tear) 45 = .ok (.invokevirtual 90, 3) := by decide +kernel
theorem dX10_tear_48 : decode (mC M_X10_tear) 48 = .ok (.aload_n 0, 1) := by decide +kernel
theorem dX10_tear_49 : decode (mC M_X10_tear) 49 = .ok (.getfield 13, 3) := by decide +kernel
theorem dX10_tear_52 : decode (mC M_X10_tear) 52 = .ok (.iload_n 1, 1) := by decide +kernel
theorem dX10_tear_53 : decode (mC M_X10_tear) 53 = .ok (.iconst 1, 1) := by decide +kernel
theorem dX10_tear_54 : decode (mC M_X10_tear) 54 = .ok (.bastore, 1) := by decide +kernel
theorem dX10_tear_55 : decode (mC M_X10_tear) 55 = .ok (.iload_n 2, 1) := by decide +kernel
theorem dX10_tear_56 : decode (mC M_X10_tear) 56 = .ok (.ireturn, 1) := by decide +kernel
theorem dX10_mend_0 : decode (mC M_X10_mend) 0 = .ok (.aload_n 0, 1) := by decide +kernel
theorem dX10_mend_1 : decode (mC M_X10_mend) 1 = .ok (.iload_n 1, 1) := by decide +kernel
theorem dX10_mend_2 : decode (mC M_X10_mend) 2 = .ok (.invokevirtual 94, 3) := by decide +kernel
theorem dX10_mend_5 : decode (mC M_X10_mend) 5 = .ok (.ifCond .ne 5, 3) := by decide +kernel
theorem dX10_mend_8 : decode (mC M_X10_mend) 8 = .ok (.iconst 0, 1) := by decide +kernel
theorem dX10_mend_9 : decode (mC M_X10_mend) 9 = .ok (.ireturn, 1) := by decide +kernel
theorem dX10_mend_10 : decode (mC M_X10_mend) 10 = .ok (.aload_n 0, 1) := by decide +kernel
theorem dX10_mend_11 : decode (mC M_X10_mend) 11 = .ok (.aload_n 0, 1) := by decide +kernel
theorem dX10_mend_12 : decode (mC M_X10_mend) 12 = .ok (.getfield 13, 3) := by decide +kernel
theorem dX10_mend_15 : decode (mC M_X10_mend) 15 = .ok (.iload_n 1, 1) := by decide +kernel
theorem dX10_mend_16 : decode (mC M_X10_mend) 16 = .ok (.baload, 1) := by decide +kernel
theorem dX10_mend_17 : decode (mC M_X10_mend) 17 = .ok (.ifCond .eq 7, 3) := by decide +kernel
theorem dX10_mend_20 : decode (mC M_X10_mend) 20 = .ok (.iconst 0, 1) := by decide +kernel
theorem dX10_mend_21 : decode (mC M_X10_mend) 21 = .ok (.goto 4, 3) := by decide +kernel
theorem dX10_mend_24 : decode (mC M_X10_mend) 24 = .ok (.iconst 2, 1) := by decide +kernel
theorem dX10_mend_25 : decode (mC M_X10_mend) 25 = .ok (.putfield 72, 3) := by decide +kernel
theorem dX10_mend_28 : decode (mC M_X10_mend) 28 = .ok (.aload_n 0, 1) := by decide +kernel
theorem dX10_mend_29 : decode (mC M_X10_mend) 29 = .ok (.getfield 72, 3) := by decide +kernel
theorem dX10_mend_32 : decode (mC M_X10_mend) 32 = .ok (.ifCond .le 5, 3) := by decide +kernel
theorem dX10_mend_35 : decode (mC M_X10_mend) 35 = .ok (.iconst 0, 1) := by decide +kernel
theorem dX10_mend_36 : decode (mC M_X10_mend) 36 = .ok (.ireturn, 1) := by decide +kernel
theorem dX10_mend_37 : decode (mC M_X10_mend) 37 = .ok (.aload_n 0, 1) := by decide +kernel
theorem dX10_mend_38 : decode (mC M_X10_mend) 38 = .ok (.getfield 13, 3) := by decide +kernel
theorem dX10_mend_41 : decode (mC M_X10_mend) 41 = .ok (.iload_n 1, 1) := by decide +kernel
theorem dX10_mend_42 : decode (mC M_X10_mend) 42 = .ok (.iconst 0, 1) := by decide +kernel
theorem dX10_mend_43 : decode (mC M_X10_mend) 43 = .ok (.bastore, 1) := by decide +kernel
theorem dX10_mend_44 : decode (mC M_X10_mend) 44 = .ok (.iconst 0, 1) := by decide +kernel
theorem dX10_mend_45 : decode (mC M_X10_mend) 45 = .ok (.istore_n 2, 1) := by decide +kernel
theorem dX10_mend_46 : decode (mC M_X10_mend) 46 = .ok (.iconst 0, 1) := by decide +kernel
theorem dX10_mend_47 : decode (mC M_X10_mend) 47 = .ok (.istore_n 3, 1) := by decide +kernel
theorem dX10_mend_48 : decode (mC M_X10_mend) 48 = .ok (.iload_n 3, 1) := by decide +kernel
theorem dX10_mend_49 : decode (mC M_X10_mend) 49 = .ok (.iconst 4, 1) := by decide +kernel
theorem dX10_mend_50 : decode (mC M_X10_mend) 50 = .ok (.if_icmp .ge 26, 3) := by decide +kernel
theorem dX10_mend_53 : decode (mC M_X10_mend) 53 = .ok (.iload_n 2, 1) := by decide +kernel
theorem dX10_mend_54 : decode (mC M_X10_mend) 54 = .ok (.aload_n 0, 1) := by decide +kernel
theorem dX10_mend_55 : decode (mC M_X10_mend) 55 = .ok (.getfield 13, 3) := by decide +kernel
theorem dX10_mend_58 : decode (mC M_X10_mend) 58 = .ok (.iload_n 3, 1) := by decide +kernel
theorem dX10_mend_59 : decode (mC M_X10_mend) 59 = .ok (.baload, 1) := by decide +kernel
theorem dX10_mend_60 : decode (mC M_X10_mend) 60 = .ok (.ifCond .eq 7, 3) := by decide +kernel
theorem dX10_mend_63 : decode (mC M_X10_mend) 63 = .ok (.iconst 0, 1) := by decide +kernel
theorem dX10_mend_64 : decode (mC M_X10_mend) 64 = .ok (.goto 4, 3) := by decide +kernel
theorem dX10_mend_67 : decode (mC M_X10_mend) 67 = .ok (.iconst 1, 1) := by decide +kernel
theorem dX10_mend_68 : decode (mC M_X10_mend) 68 = .ok (.iadd, 1) := by decide +kernel
theorem dX10_mend_69 : decode (mC M_X10_mend) 69 = .ok (.istore_n 2, 1) := by decide +kernel
theorem dX10_mend_70 : decode (mC M_X10_mend) 70 = .ok (.iinc 3 1, 3) := by decide +kernel
theorem dX10_mend_73 : decode (mC M_X10_mend) 73 = .ok (.goto (-25), 3) := by decide +kernel
theorem dX10_mend_76 : decode (mC M_X10_mend) 76 = .ok (.iload_n 2, 1) := by decide +kernel
theorem dX10_mend_77 : decode (mC M_X10_mend) 77 = .ok (.ireturn, 1) := by decide +kernel
theorem dX10_pass_0 : decode (mC M_X10_pass) 0 = .ok (.aload_n 0, 1) := by decide +kernel
theorem dX10_pass_1 : decode (mC M_X10_pass) 1 = .ok (.iload_n 1, 1) := by decide +kernel
theorem dX10_pass_2 : decode (mC M_X10_pass) 2 = .ok (.iconst 1, 1) := by decide +kernel
theorem dX10_pass_3 : decode (mC M_X10_pass) 3 = .ok (.sipush 200, 3) := by decide +kernel
theorem dX10_pass_6 : decode (mC M_X10_pass) 6 = .ok (.invokestatic 75, 3) := by decide +kernel
theorem dX10_pass_9 : decode (mC M_X10_pass) 9 = .ok (.ifCond .ne 7, 3) := by decide +kernel
theorem dX10_pass_12 : decode (mC M_X10_pass) 12 = .ok (.iconst 1, 1) := by decide +kernel
theorem dX10_pass_13 : decode (mC M_X10_pass) 13 = .ok (.goto 20, 3) := by decide +kernel
theorem dX10_pass_16 : decode (mC M_X10_pass) 16 = .ok (.aload_n 0, 1) := by decide +kernel
theorem dX10_pass_17 : decode (mC M_X10_pass) 17 = .ok (.getfield 100, 3) := by decide +kernel
theorem dX10_pass_20 : decode (mC M_X10_pass) 20 = .ok (.iload_n 1, 1) := by decide +kernel
theorem dX10_pass_21 : decode (mC M_X10_pass) 21 = .ok (.iadd, 1) := by decide +kernel
theorem dX10_pass_22 : decode (mC M_X10_pass) 22 = .ok (.sipush 10000, 3) := by decide +kernel
theorem dX10_pass_25 : decode (mC M_X10_pass) 25 = .ok (.if_icmp .le 7, 3) := by decide +kernel
theorem dX10_pass_28 : decode (mC M_X10_pass) 28 = .ok (.iconst 2, 1) := by decide +kernel
theorem dX10_pass_29 : decode (mC M_X10_pass) 29 = .ok (.goto 4, 3) := by decide +kernel
theorem dX10_pass_32 : decode (mC M_X10_pass) 32 = .ok (.iconst 0, 1) := by decide +kernel
theorem dX10_pass_33 : decode (mC M_X10_pass) 33 = .ok (.putfield 72, 3) := by decide +kernel
theorem dX10_pass_36 : decode (mC M_X10_pass) 36 = .ok (.aload_n 0, 1) := by decide +kernel
theorem dX10_pass_37 : decode (mC M_X10_pass) 37 = .ok (.getfield 72, 3) := by decide +kernel
theorem dX10_pass_40 : decode (mC M_X10_pass) 40 = .ok (.ifCond .le 5, 3) := by decide +kernel
theorem dX10_pass_43 : decode (mC M_X10_pass) 43 = .ok (.iconst 0, 1) := by decide +kernel
theorem dX10_pass_44 : decode (mC M_X10_pass) 44 = .ok (.ireturn, 1) := by decide +kernel
theorem dX10_pass_45 : decode (mC M_X10_pass) 45 = .ok (.aload_n 0, 1) := by decide +kernel
theorem dX10_pass_46 : decode (mC M_X10_pass) 46 = .ok (.dup, 1) := by decide +kernel
theorem dX10_pass_47 : decode (mC M_X10_pass) 47 = .ok (.getfield 100, 3) := by decide +kernel
theorem dX10_pass_50 : decode (mC M_X10_pass) 50 = .ok (.iload_n 1, 1) := by decide +kernel
theorem dX10_pass_51 : decode (mC M_X10_pass) 51 = .ok (.iadd, 1) := by decide +kernel
theorem dX10_pass_52 : decode (mC M_X10_pass) 52 = .ok (.putfield 100, 3) := by decide +kernel
theorem dX10_pass_55 : decode (mC M_X10_pass) 55 = .ok (.iconst 0, 1) := by decide +kernel
theorem dX10_pass_56 : decode (mC M_X10_pass) 56 = .ok (.istore_n 2, 1) := by decide +kernel
theorem dX10_pass_57 : decode (mC M_X10_pass) 57 = .ok (.iconst 0, 1) := by decide +kernel
theorem dX10_pass_58 : decode (mC M_X10_pass) 58 = .ok (.istore_n 3, 1) := by decide +kernel
theorem dX10_pass_59 : decode (mC M_X10_pass) 59 = .ok (.iload_n 3, 1) := by decide +kernel
theorem dX10_pass_60 : decode (mC M_X10_pass) 60 = .ok (.iconst 4, 1) := by decide +kernel
theorem dX10_pass_61 : decode (mC M_X10_pass) 61 = .ok (.if_icmp .ge 82, 3) := by decide +kernel
theorem dX10_pass_64 : decode (mC M_X10_pass) 64 = .ok (.aload_n 0, 1) := by decide +kernel
theorem dX10_pass_65 : decode (mC M_X10_pass) 65 = .ok (.getfield 17, 3) := by decide +kernel
theorem dX10_pass_68 : decode (mC M_X10_pass) 68 = .ok (.iload_n 3, 1) := by decide +kernel
theorem dX10_pass_69 : decode (mC M_X10_pass) 69 = .ok (.iaload, 1) := by decide +kernel
theorem dX10_pass_70 : decode (mC M_X10_pass) 70 = .ok (.ifCond .le 32, 3) := by decide +kernel
theorem dX10_pass_73 : decode (mC M_X10_pass) 73 = .ok (.aload_n 0, 1) := by decide +kernel
theorem dX10_pass_74 : decode (mC M_X10_pass) 74 = .ok (.getfield 21, 3) := by decide +kernel
theorem dX10_pass_77 : decode (mC M_X10_pass) 77 = .ok (.iload_n 3, 1) := by decide +kernel
theorem dX10_pass_78 : decode (mC M_X10_pass) 78 = .ok (.iaload, 1) := by decide +kernel
theorem dX10_pass_79 : decode (mC M_X10_pass) 79 = .ok (.ifCond .eq 19, 3) := by decide +kernel
theorem dX10_pass_82 : decode (mC M_X10_pass) 82 = .ok (.aload_n 0, 1) := by decide +kernel
theorem dX10_pass_83 : decode (mC M_X10_pass) 83 = .ok (.getfield 42, 3) := by decide +kernel
theorem dX10_pass_86 : decode (mC M_X10_pass) 86 = .ok (.aload_n 0, 1) := by decide +kernel
theorem dX10_pass_87 : decode (mC M_X10_pass) 87 = .ok (.getfield 21, 3) := by decide +kernel
theorem dX10_pass_90 : decode (mC M_X10_pass) 90 = .ok (.iload_n 3, 1) := by decide +kernel
theorem dX10_pass_91 : decode (mC M_X10_pass) 91 = .ok (.iaload, 1) := by decide +kernel
theorem dX10_pass_92 : decode (mC M_X10_pass) 92 = .ok (.iconst 1, 1) := by decide +kernel
theorem dX10_pass_93 : decode (mC M_X10_pass) 93 = .ok (.isub, 1) := by decide +kernel
theorem dX10_pass_94 : decode (mC M_X10_pass) 94 = .ok (.baload, 1) := by decide +kernel
theorem dX10_pass_95 : decode (mC M_X10_pass) 95 = .ok (.ifCond .ne 7, 3) := by decide +kernel
theorem dX10_pass_98 : decode (mC M_X10_pass) 98 = .ok (.iconst 1, 1) := by decide +kernel
theorem dX10_pass_99 : decode (mC M_X10_pass) 99 = .ok (.goto 4, 3) := by decide +kernel
theorem dX10_pass_102 : decode (mC M_X10_pass) 102 = .ok (.iconst 0, 1) := by decide +kernel
theorem dX10_pass_103 : decode (mC M_X10_pass) 103 = .ok (.istore 4, 2) := by decide +kernel
theorem dX10_pass_105 : decode (mC M_X10_pass) 105 = .ok (.aload_n 0, 1) := by decide +kernel
theorem dX10_pass_106 : decode (mC M_X10_pass) 106 = .ok (.getfield 24, 3) := by decide +kernel
theorem dX10_pass_109 : decode (mC M_X10_pass) 109 = .ok (.iload_n 3, 1) := by decide +kernel
theorem dX10_pass_110 : decode (mC M_X10_pass) 110 = .ok (.dup2, 1) := by decide +kernel
theorem dX10_pass_111 : decode (mC M_X10_pass) 111 = .ok (.iaload, 1) := by decide +kernel
theorem dX10_pass_112 : decode (mC M_X10_pass) 112 = .ok (.iload 4, 2) := by decide +kernel
theorem dX10_pass_114 : decode (mC M_X10_pass) 114 = .ok (.ifCond .eq 7, 3) := by decide +kernel
theorem dX10_pass_117 : decode (mC M_X10_pass) 117 = .ok (.iload_n 1, 1) := by decide +kernel
theorem dX10_pass_118 : decode (mC M_X10_pass) 118 = .ok (.goto 4, 3) := by decide +kernel
theorem dX10_pass_121 : decode (mC M_X10_pass) 121 = .ok (.iconst 0, 1) := by decide +kernel
theorem dX10_pass_122 : decode (mC M_X10_pass) 122 = .ok (.iadd, 1) := by decide +kernel
theorem dX10_pass_123 : decode (mC M_X10_pass) 123 = .ok (.iastore, 1) := by decide +kernel
theorem dX10_pass_124 : decode (mC M_X10_pass) 124 = .ok (.iload_n 2, 1) := by decide +kernel
theorem dX10_pass_125 : decode (mC M_X10_pass) 125 = .ok (.iload 4, 2) := by decide +kernel
theorem dX10_pass_127 : decode (mC M_X10_pass) 127 = .ok (.ifCond .eq 7, 3) := by decide +kernel
theorem dX10_pass_130 : decode (mC M_X10_pass) 130 = .ok (.iload_n 1, 1) := by decide +kernel
theorem dX10_pass_131 : decode (mC M_X10_pass) 131 = .ok (.goto 4, 3) := by decide +kernel
theorem dX10_pass_134 : decode (mC M_X10_pass) 134 = .ok (.iconst 0, 1) := by decide +kernel
theorem dX10_pass_135 : decode (mC M_X10_pass) 135 = .ok (.iadd, 1) := by decide +kernel
theorem dX10_pass_136 : decode (mC M_X10_pass) 136 = .ok (.istore_n 2, 1) := by decide +kernel
theorem dX10_pass_137 : decode (mC M_X10_pass) 137 = .ok (.iinc 3 1, 3) := by decide +kernel
theorem dX10_pass_140 : decode (mC M_X10_pass) 140 = .ok (.goto (-81), 3) := by decide +kernel
theorem dX10_pass_143 : decode (mC M_X10_pass) 143 = .ok (.iload_n 2, 1) := by decide +kernel
theorem dX10_pass_144 : decode (mC M_X10_pass) 144 = .ok (.ireturn, 1) := by decide +kernel
theorem dX10_mayPlay_0 : decode (mC M_X10_mayPlay) 0 = .ok (.aload_n 0, 1) := by decide +kernel
theorem dX10_mayPlay_1 : decode (mC M_X10_mayPlay) 1 = .ok (.getfield 17, 3) := by decide +kernel
theorem dX10_mayPlay_4 : decode (mC M_X10_mayPlay) 4 = .ok (.iload_n 1, 1) := by decide +kernel
theorem dX10_mayPlay_5 : decode (mC M_X10_mayPlay) 5 = .ok (.iaload, 1) := by decide +kernel
theorem dX10_mayPlay_6 : decode (mC M_X10_mayPlay) 6 = .ok (.iload_n 2, 1) := by decide +kernel
theorem dX10_mayPlay_7 : decode (mC M_X10_mayPlay) 7 = .ok (.iconst 1, 1) := by decide +kernel
theorem dX10_mayPlay_8 : decode (mC M_X10_mayPlay) 8 = .ok (.iadd, 1) := by decide +kernel
theorem dX10_mayPlay_9 : decode (mC M_X10_mayPlay) 9 = .ok (.if_icmp .eq 15, 3) := by decide +kernel
theorem dX10_mayPlay_12 : decode (mC M_X10_mayPlay) 12 = .ok (.aload_n 0, 1) := by decide +kernel
theorem dX10_mayPlay_13 : decode (mC M_X10_mayPlay) 13 = .ok (.getfield 17, 3) := by decide +kernel
theorem dX10_mayPlay_16 : decode (mC M_X10_mayPlay) 16 = .ok (.iload_n 1, 1) := by decide +kernel
theorem dX10_mayPlay_17 : decode (mC M_X10_mayPlay) 17 = .ok (.iaload, 1) := by decide +kernel
theorem dX10_mayPlay_18 : decode (mC M_X10_mayPlay) 18 = .ok (.iload_n 3, 1) := by decide +kernel
theorem dX10_mayPlay_19 : decode (mC M_X10_mayPlay) 19 = .ok (.iconst 1, 1) := by decide +kernel
theorem dX10_mayPlay_20 : decode (mC M_X10_mayPlay) 20 = .ok (.iadd, 1) := by decide +kernel
theorem dX10_mayPlay_21 : decode (mC M_X10_mayPlay) 21 = .ok (.if_icmp .ne 7, 3) := by decide +kernel
theorem dX10_mayPlay_24 : decode (mC M_X10_mayPlay) 24 = .ok (.iconst 1, 1) := by decide +kernel
theorem dX10_mayPlay_25 : decode (mC M_X10_mayPlay) 25 = .ok (.goto 4, 3) := by decide +kernel
theorem dX10_mayPlay_28 : decode (mC M_X10_mayPlay) 28 = .ok (.iconst 0, 1) := by decide +kernel
theorem dX10_mayPlay_29 : decode (mC M_X10_mayPlay) 29 = .ok (.istore 5, 2) := by decide +kernel
theorem dX10_mayPlay_31 : decode (mC M_X10_mayPlay) 31 = .ok (.aload_n 0, 1) := by decide +kernel
theorem dX10_mayPlay_32 : decode (mC M_X10_mayPlay) 32 = .ok (.getfield 13, 3) := by decide +kernel
theorem dX10_mayPlay_35 : decode (mC M_X10_mayPlay) 35 = .ok (.iload_n 1, 1) := by decide +kernel
theorem dX10_mayPlay_36 : decode (mC M_X10_mayPlay) 36 = .ok (.baload, 1) := by decide +kernel
theorem dX10_mayPlay_37 : decode (mC M_X10_mayPlay) 37 = .ok (.ifCond .ne 26, 3) := by decide +kernel
theorem dX10_mayPlay_40 : decode (mC M_X10_mayPlay) 40 = .ok (.aload_n 0, 1) := by decide +kernel
theorem dX10_mayPlay_41 : decode (mC M_X10_mayPlay) 41 = .ok (.getfield 21, 3) := by decide +kernel
theorem dX10_mayPlay_44 : decode (mC M_X10_mayPlay) 44 = .ok (.iload_n 1, 1) := by decide +kernel
theorem dX10_mayPlay_45 : decode (mC M_X10_mayPlay) 45 = .ok (.iaload, 1) := by decide +kernel
theorem dX10_mayPlay_46 : decode (mC M_X10_mayPlay) 46 = .ok (.ifCond .ne 17, 3) := by decide +kernel
theorem dX10_mayPlay_49 : decode (mC M_X10_mayPlay) 49 = .ok (.iload 4, 2) := by decide +kernel
theorem dX10_mayPlay_51 : decode (mC M_X10_mayPlay) 51 = .ok (.ifCond .ne 8, 3) := by decide +kernel
theorem dX10_mayPlay_54 : decode (mC M_X10_mayPlay) 54 = .ok (.iload 5, 2) := by decide +kernel
theorem dX10_mayPlay_56 : decode (mC M_X10_mayPlay) 56 = .ok (.ifCond .eq 7, 3) := by decide +kernel
theorem dX10_mayPlay_59 : decode (mC M_X10_mayPlay) 59 = .ok (.iconst 1, 1) := by decide +kernel
theorem dX10_mayPlay_60 : decode (mC M_X10_mayPlay) 60 = .ok (.goto 4, 3) := by decide +kernel
theorem dX10_mayPlay_63 : decode (mC M_X10_mayPlay) 63 = .ok (.iconst 0, 1) := by decide +kernel
theorem dX10_mayPlay_64 : decode (mC M_X10_mayPlay) 64 = .ok (.ireturn, 1) := by decide +kernel
theorem dX10_begin_0 : decode (mC M_X10_begin) 0 = .ok (.aload_n 0, 1) := by decide +kernel
theorem dX10_begin_1 : decode (mC M_X10_begin) 1 = .ok (.iload_n 1, 1) := by decide +kernel
theorem dX10_begin_2 : decode (mC M_X10_begin) 2 = .ok (.invokestatic 79, 3) := by decide +kernel
theorem dX10_begin_5 : decode (mC M_X10_begin) 5 = .ok (.ifCond .eq 21, 3) := by decide +kernel
theorem dX10_begin_8 : decode (mC M_X10_begin) 8 = .ok (.iload_n 2, 1) := by decide +kernel
theorem dX10_begin_9 : decode (mC M_X10_begin) 9 = .ok (.invokestatic 83, 3) := by decide +kernel
theorem dX10_begin_12 : decode (mC M_X10_begin) 12 = .ok (.ifCond .eq 14, 3) := by decide +kernel
theorem dX10_begin_15 : decode (mC M_X10_begin) 15 = .ok (.iload_n 3, 1) := by decide +kernel
theorem dX10_begin_16 : decode (mC M_X10_begin) 16 = .ok (.invokestatic 83, 3) := by decide +kernel
theorem dX10_begin_19 : decode (mC M_X10_begin) 19 = .ok (.ifCond .eq 7, 3) := by decide +kernel
theorem dX10_begin_22 : decode (mC M_X10_begin) 22 = .ok (.iconst 0, 1) := by decide +kernel
theorem dX10_begin_23 : decode (mC M_X10_begin) 23 = .ok (.goto 4, 3) := by decide +kernel
theorem dX10_begin_26 : decode (mC M_X10_begin) 26 = .ok (.iconst 1, 1) := by decide +kernel
theorem dX10_begin_27 : decode (mC M_X10_begin) 27 = .ok (.putfield 72, 3) := by decide +kernel
theorem dX10_begin_30 : decode (mC M_X10_begin) 30 = .ok (.aload_n 0, 1) := by decide +kernel
theorem dX10_begin_31 : decode (mC M_X10_begin) 31 = .ok (.getfield 72, 3) := by decide +kernel
theorem dX10_begin_34 : decode (mC M_X10_begin) 34 = .ok (.ifCond .le 5, 3) := by decide +kernel
theorem dX10_begin_37 : decode (mC M_X10_begin) 37 = .ok (.iconst 0, 1) := by decide +kernel
theorem dX10_begin_38 : decode (mC M_X10_begin) 38 = .ok (.ireturn, 1) := by decide +kernel
theorem dX10_begin_39 : decode (mC M_X10_begin) 39 = .ok (.aload_n 0, 1) := by decide +kernel
theorem dX10_begin_40 : decode (mC M_X10_begin) 40 = .ok (.iload_n 2, 1) := by decide +kernel
theorem dX10_begin_41 : decode (mC M_X10_begin) 41 = .ok (.iload_n 3, 1) := by decide +kernel
theorem dX10_begin_42 : decode (mC M_X10_begin) 42 = .ok (.if_icmp .ne 7, 3) := by decide +kernel
theorem dX10_begin_45 : decode (mC M_X10_begin) 45 = .ok (.iconst 2, 1) := by decide +kernel
theorem dX10_begin_46 : decode (mC M_X10_begin) 46 = .ok (.goto 29, 3) := by decide +kernel
theorem dX10_begin_49 : decode (mC M_X10_begin) 49 = .ok (.aload_n 0, 1) := by decide +kernel
theorem dX10_begin_50 : decode (mC M_X10_begin) 50 = .ok (.getfield 103, 3) := by decide +kernel
theorem dX10_begin_53 : decode (mC M_X10_begin) 53 = .ok (.bipush 20, 2) := by decide +kernel
theorem dX10_begin_55 : decode (mC M_X10_begin) 55 = .ok (.if_icmp .eq 15, 3) := by decide +kernel
theorem dX10_begin_58 : decode (mC M_X10_begin) 58 = .ok (.aload_n 0, 1) := by decide +kernel
theorem dX10_begin_59 : decode (mC M_X10_begin) 59 = .ok (.iload_n 1, 1) := by decide +kernel
theorem dX10_begin_60 : decode (mC M_X10_begin) 60 = .ok (.iload_n 2, 1) := by decide +kernel
theorem dX10_begin_61 : decode (mC M_X10_begin) 61 = .ok (.iload_n 3, 1) := by decide +kernel
theorem dX10_begin_62 : decode (mC M_X10_begin) 62 = .ok (.iload 4, 2) := by decide +kernel
theorem dX10_begin_64 : decode (mC M_X10_begin) 64 = .ok (.invokevirtual 106, 3) := by decide +kernel
theorem dX10_begin_67 : decode (mC M_X10_begin) 67 = .ok (.ifCond .ne 7, 3) := by decide +kernel
theorem dX10_begin_70 : decode (mC M_X10_begin) 70 = .ok (.iconst 3, 1) := by decide +kernel
theorem dX10_begin_71 : decode (mC M_X10_begin) 71 = .ok (.goto 4, 3) := by decide +kernel
theorem dX10_begin_74 : decode (mC M_X10_begin) 74 = .ok (.iconst 0, 1) := by decide +kernel
theorem dX10_begin_75 : decode (mC M_X10_begin) 75 = .ok (.putfield 72, 3) := by decide +kernel
theorem dX10_begin_78 : decode (mC M_X10_begin) 78 = .ok (.aload_n 0, 1) := by decide +kernel
theorem dX10_begin_79 : decode (mC M_X10_begin) 79 = .ok (.getfield 72, 3) := by decide +kernel
theorem dX10_begin_82 : decode (mC M_X10_begin) 82 = .ok (.ifCond .le 5, 3) := by decide +kernel
theorem dX10_begin_85 : decode (mC M_X10_begin) 85 = .ok (.iconst 0, 1) := by decide +kernel
theorem dX10_begin_86 : decode (mC M_X10_begin) 86 = .ok (.ireturn, 1) := by decide +kernel
theorem dX10_begin_87 : decode (mC M_X10_begin) 87 = .ok (.aload_n 0, 1) := by decide +kernel
theorem dX10_begin_88 : decode (mC M_X10_begin) 88 = .ok (.getfield 103, 3) := by decide +kernel
theorem dX10_begin_91 : decode (mC M_X10_begin) 91 = .ok (.istore 5, 2) := by decide +kernel
theorem dX10_begin_93 : decode (mC M_X10_begin) 93 = .ok (.aload_n 0, 1) := by decide +kernel
theorem dX10_begin_94 : decode (mC M_X10_begin) 94 = .ok (.dup, 1) := by decide +kernel
theorem dX10_begin_95 : decode (mC M_X10_begin) 95 = .ok (.getfield 103, 3) := by decide +kernel
theorem dX10_begin_98 : decode (mC M_X10_begin) 98 = .ok (.iconst 1, 1) := by decide +kernel
theorem dX10_begin_99 : decode (mC M_X10_begin) 99 = .ok (.iadd, 1) := by decide +kernel
theorem dX10_begin_100 : decode (mC M_X10_begin) 100 = .ok (.putfield 103, 3) := by decide +kernel
theorem dX10_begin_103 : decode (mC M_X10_begin) 103 = .ok (.aload_n 0, 1) := by decide +kernel
theorem dX10_begin_104 : decode (mC M_X10_begin) 104 = .ok (.getfield 39, 3) := by decide +kernel
theorem dX10_begin_107 : decode (mC M_X10_begin) 107 = .ok (.iconst 2, 1) := by decide +kernel
theorem dX10_begin_108 : decode (mC M_X10_begin) 108 = .ok (.iload 5, 2) := by decide +kernel
theorem dX10_begin_110 : decode (mC M_X10_begin) 110 = .ok (.imul, 1) := by decide +kernel
theorem dX10_begin_111 : decode (mC M_X10_begin) 111 = .ok (.iload_n 2, 1) := by decide +kernel
theorem dX10_begin_112 : decode (mC M_X10_begin) 112 = .ok (.iastore, 1) := by decide +kernel
theorem dX10_begin_113 : decode (mC M_X10_begin) 113 = .ok (.aload_n 0, 1) := by decide +kernel
theorem dX10_begin_114 : decode (mC M_X10_begin) 114 = .ok (.getfield 39, 3) := by decide +kernel
theorem dX10_begin_117 : decode (mC M_X10_begin) 117 = .ok (.iconst 2, 1) := by decide +kernel
theorem dX10_begin_118 : decode (mC M_X10_begin) 118 = .ok (.iload 5, 2) := by decide +kernel
theorem dX10_begin_120 : decode (mC M_X10_begin) 120 = .ok (.imul, 1) := by decide +kernel
theorem dX10_begin_121 : decode (mC M_X10_begin) 121 = .ok (.iconst 1, 1) := by decide +kernel
theorem dX10_begin_122 : decode (mC M_X10_begin) 122 = .ok (.iadd, 1) := by decide +kernel
theorem dX10_begin_123 : decode (mC M_X10_begin) 123 = .ok (.iload_n 3, 1) := by decide +kernel
theorem dX10_begin_124 : decode (mC M_X10_begin) 124 = .ok (.iastore, 1) := by decide +kernel
theorem dX10_begin_125 : decode (mC M_X10_begin) 125 = .ok (.aload_n 0, 1) := by decide +kernel
theorem dX10_begin_126 : decode (mC M_X10_begin) 126 = .ok (.getfield 42, 3) := by decide +kernel
theorem dX10_begin_129 : decode (mC M_X10_begin) 129 = .ok (.iload 5, 2) := by decide +kernel
theorem dX10_begin_131 : decode (mC M_X10_begin) 131 = .ok (.iload 4, 2) := by decide +kernel
theorem dX10_begin_133 : decode (mC M_X10_begin) 133 = .ok (.bastore, 1) := by decide +kernel
theorem dX10_begin_134 : decode (mC M_X10_begin) 134 = .ok (.aload_n 0, 1) := by decide +kernel
theorem dX10_begin_135 : decode (mC M_X10_begin) 135 = .ok (.getfield 57, 3) := by decide +kernel
theorem dX10_begin_138 : decode (mC M_X10_begin) 138 = .ok (.iload 5, 2) := by decide +kernel
theorem dX10_begin_140 : decode (mC M_X10_begin) 140 = .ok (.iconst (-1), 1) := by decide +kernel
theorem dX10_begin_141 : decode (mC M_X10_begin) 141 = .ok (.iastore, 1) := by decide +kernel
theorem dX10_begin_142 : decode (mC M_X10_begin) 142 = .ok (.iconst 0, 1) := by decide +kernel
theorem dX10_begin_143 : decode (mC M_X10_begin) 143 = .ok (.istore 6, 2) := by decide +kernel
theorem dX10_begin_145 : decode (mC M_X10_begin) 145 = .ok (.iload 6, 2) := by decide +kernel
theorem dX10_begin_147 : decode (mC M_X10_begin) 147 = .ok (.bipush 8, 2) := by decide +kernel
theorem dX10_begin_149 : decode (mC M_X10_begin) 149 = .ok (.if_icmp .ge 27, 3) := by decide +kernel
theorem dX10_begin_152 : decode (mC M_X10_begin) 152 = .ok (.aload_n 0, 1) := by decide +kernel
theorem dX10_begin_153 : decode (mC M_X10_begin) 153 = .ok (.getfield 60, 3) := by decide +kernel
theorem dX10_begin_156 : decode (mC M_X10_begin) 156 = .ok (.bipush 8, 2) := by decide +kernel
theorem dX10_begin_158 : decode (mC M_X10_begin) 158 = .ok (.iload 5, 2) := by decide +kernel
theorem dX10_begin_160 : decode (mC M_X10_begin) 160 = .ok (.imul, 1) := by decide +kernel
theorem dX10_begin_161 : decode (mC M_X10_begin) 161 = .ok (.iload 6, 2) := by decide +kernel
theorem dX10_begin_163 : decode (mC M_X10_begin) 163 = .ok (.iadd, 1) := by decide +kernel
theorem dX10_begin_164 : decode (mC M_X10_begin) 164 = .ok (.iload 6, 2) := by decide +kernel
theorem dX10_begin_166 : decode (mC M_X10_begin) 166 = .ok (.invokestatic 110, 3) := by decide +kernel
theorem dX10_begin_169 : decode (mC M_X10_begin) 169 = .ok (.iastore, 1) := by decide +kernel
theorem dX10_begin_170 : decode (mC M_X10_begin) 170 = .ok (.iinc 6 1, 3) := by decide +kernel
theorem dX10_begin_173 : decode (mC M_X10_begin) 173 = .ok (.goto (-28), 3) := by decide +kernel
theorem dX10_begin_176 : decode (mC M_X10_begin) 176 = .ok (.aload_n 0, 1) := by decide +kernel
theorem dX10_begin_177 : decode (mC M_X10_begin) 177 = .ok (.getfield 21, 3) := by decide +kernel
theorem dX10_begin_180 : decode (mC M_X10_begin) 180 = .ok (.iload_n 1, 1) := by decide +kernel
theorem dX10_begin_181 : decode (mC M_X10_begin) 181 = .ok (.iload 5, 2) := by decide +kernel
theorem dX10_begin_183 : decode (mC M_X10_begin) 183 = .ok (.iconst 1, 1) := by decide +kernel
theorem dX10_begin_184 : decode (mC M_X10_begin) 184 = .ok (.iadd, 1) := by decide +kernel
theorem dX10_begin_185 : decode (mC M_X10_begin) 185 = .ok (.iastore, 1) := by decide +kernel
theorem dX10_begin_186 : decode (mC M_X10_begin) 186 = .ok (.iload 5, 2) := by decide +kernel
theorem dX10_begin_188 : decode (mC M_X10_begin) 188 = .ok (.ireturn, 1) := by decide +kernel
theorem dX10_asks_0 : decode (mC M_X10_asks) 0 = .ok (.aload_n 0, 1) := by decide +kernel
theorem dX10_asks_1 : decode (mC M_X10_asks) 1 = .ok (.iload_n 1, 1) := by decide +kernel
theorem dX10_asks_2 : decode (mC M_X10_asks) 2 = .ok (.iconst 0, 1) := by decide +kernel
theorem dX10_asks_3 : decode (mC M_X10_asks) 3 = .ok (.aload_n 0, 1) := by decide +kernel
theorem dX10_asks_4 : decode (mC M_X10_asks) 4 = .ok (.getfield 103, 3) := by decide +kernel
theorem dX10_asks_7 : decode (mC M_X10_asks) 7 = .ok (.iconst 1, 1) := by decide +kernel
theorem dX10_asks_8 : decode (mC M_X10_asks) 8 = .ok (.isub, 1) := by decide +kernel
theorem dX10_asks_9 : decode (mC M_X10_asks) 9 = .ok (.invokestatic 75, 3) := by decide +kernel
theorem dX10_asks_12 : decode (mC M_X10_asks) 12 = .ok (.ifCond .eq 7, 3) := by decide +kernel
theorem dX10_asks_15 : decode (mC M_X10_asks) 15 = .ok (.iconst 0, 1) := by decide +kernel
theorem dX10_asks_16 : decode (mC M_X10_asks) 16 = .ok (.goto 4, 3) := by decide +kernel
theorem dX10_asks_19 : decode (mC M_X10_asks) 19 = .ok (.iconst 1, 1) := by decide +kernel
theorem dX10_asks_20 : decode (mC M_X10_asks) 20 = .ok (.putfield 72, 3) := by decide +kernel
theorem dX10_asks_23 : decode (mC M_X10_asks) 23 = .ok (.aload_n 0, 1) := by decide +kernel
theorem dX10_asks_24 : decode (mC M_X10_asks) 24 = .ok (.getfield 72, 3) := by decide +kernel
theorem dX10_asks_27 : decode (mC M_X10_asks) 27 = .ok (.ifCond .ne 7, 3) := by decide +kernel
theorem dX10_asks_30 : decode (mC M_X10_asks) 30 = .ok (.iconst 1, 1) := by decide +kernel
theorem dX10_asks_31 : decode (mC M_X10_asks) 31 = .ok (.goto 4, 3) := by decide +kernel
theorem dX10_asks_34 : decode (mC M_X10_asks) 34 = .ok (.iconst 0, 1) := by decide +kernel
theorem dX10_asks_35 : decode (mC M_X10_asks) 35 = .ok (.ireturn, 1) := by decide +kernel
theorem dX10_resume_0 : decode (mC M_X10_resume) 0 = .ok (.aload_n 0, 1) := by decide +kernel
theorem dX10_resume_1 : decode (mC M_X10_resume) 1 = .ok (.iload_n 1, 1) := by decide +kernel
theorem dX10_resume_2 : decode (mC M_X10_resume) 2 = .ok (.iconst 0, 1) := by decide +kernel
theorem dX10_resume_3 : decode (mC M_X10_resume) 3 = .ok (.aload_n 0, 1) := by decide +kernel
theorem dX10_resume_4 : decode (mC M_X10_resume) 4 = .ok (.getfield 103, 3) := by decide +kernel
theorem dX10_resume_7 : decode (mC M_X10_resume) 7 = .ok (.iconst 1, 1) := by decide +kernel
theorem dX10_resume_8 : decode (mC M_X10_resume) 8 = .ok (.isub, 1) := by decide +kernel
theorem dX10_resume_9 : decode (mC M_X10_resume) 9 = .ok (.invokestatic 75, 3) := by decide +kernel
theorem dX10_resume_12 : decode (mC M_X10_resume) 12 = .ok (.ifCond .eq 14, 3) := by decide +kernel
theorem dX10_resume_15 : decode (mC M_X10_resume) 15 = .ok (.iload_n 2, 1) := by decide +kernel
theorem dX10_resume_16 : decode (mC M_X10_resume) 16 = .ok (.invokestatic 79, 3) := by decide +kernel
theorem dX10_resume_19 : decode (mC M_X10_resume) 19 = .ok (.ifCond .eq 7, 3) := by decide +kernel
theorem dX10_resume_22 : decode (mC M_X10_resume) 22 = .ok (.iconst 0, 1) := by decide +kernel
theorem dX10_resume_23 : decode (mC M_X10_resume) 23 = .ok (.goto 4, 3) := by decide +kernel
theorem dX10_resume_26 : decode (mC M_X10_resume) 26 = .ok (.iconst 1, 1) := by decide +kernel
theorem dX10_resume_27 : decode (mC M_X10_resume) 27 = .ok (.putfield 72, 3) := by decide +kernel
theorem dX10_resume_30 : decode (mC M_X10_resume) 30 = .ok (.aload_n 0, 1) := by decide +kernel
theorem dX10_resume_31 : decode (mC M_X10_resume) 31 = .ok (.getfield 72, 3) := by decide +kernel
theorem dX10_resume_34 : decode (mC M_X10_resume) 34 = .ok (.ifCond .le 5, 3) := by decide +kernel
theorem dX10_resume_37 : decode (mC M_X10_resume) 37 = .ok (.iconst 0, 1) := by decide +kernel
theorem dX10_resume_38 : decode (mC M_X10_resume) 38 = .ok (.ireturn, 1) := by decide +kernel
theorem dX10_resume_39 : decode (mC M_X10_resume) 39 = .ok (.aload_n 0, 1) := by decide +kernel
theorem dX10_resume_40 : decode (mC M_X10_resume) 40 = .ok (.aload_n 0, 1) := by decide +kernel
theorem dX10_resume_41 : decode (mC M_X10_resume) 41 = .ok (.getfield 45, 3) := by decide +kernel
theorem dX10_resume_44 : decode (mC M_X10_resume) 44 = .ok (.iload_n 1, 1) := by decide +kernel
theorem dX10_resume_45 : decode (mC M_X10_resume) 45 = .ok (.iaload, 1) := by decide +kernel
theorem dX10_resume_46 : decode (mC M_X10_resume) 46 = .ok (.iconst 1, 1) := by decide +kernel
theorem dX10_resume_47 : decode (mC M_X10_resume) 47 = .ok (.if_icmp .ne 35, 3) := by decide +kernel
theorem dX10_resume_50 : decode (mC M_X10_resume) 50 = .ok (.aload_n 0, 1) := by decide +kernel
theorem dX10_resume_51 : decode (mC M_X10_resume) 51 = .ok (.iload_n 2, 1) := by decide +kernel
theorem dX10_resume_52 : decode (mC M_X10_resume) 52 = .ok (.aload_n 0, 1) := by decide +kernel
theorem dX10_resume_53 : decode (mC M_X10_resume) 53 = .ok (.getfield 39, 3) := by decide +kernel
theorem dX10_resume_56 : decode (mC M_X10_resume) 56 = .ok (.iconst 2, 1) := by decide +kernel
theorem dX10_resume_57 : decode (mC M_X10_resume) 57 = .ok (.iload_n 1, 1) := by decide +kernel
theorem dX10_resume_58 : decode (mC M_X10_resume) 58 = .ok (.imul, 1) := by decide +kernel
theorem dX10_resume_59 : decode (mC M_X10_resume) 59 = .ok (.iaload, 1) := by decide +kernel
theorem dX10_resume_60 : decode (mC M_X10_resume) 60 = .ok (.aload_n 0, 1) := by decide +kernel
theorem dX10_resume_61 : decode (mC M_X10_resume) 61 = .ok (.getfield 39, 3) := by decide +kernel
theorem dX10_resume_64 : decode (mC M_X10_resume) 64 = .ok (.iconst 2, 1) := by decide +kernel
theorem dX10_resume_65 : decode (mC M_X10_resume) 65 = .ok (.iload_n 1, 1) := by decide +kernel
theorem dX10_resume_66 : decode (mC M_X10_resume) 66 = .ok (.imul, 1) := by decide +kernel
theorem dX10_resume_67 : decode (mC M_X10_resume) 67 = .ok (.iconst 1, 1) := by decide +kernel
theorem dX10_resume_68 : decode (mC M_X10_resume) 68 = .ok (.iadd, 1) := by decide +kernel
theorem dX10_resume_69 : decode (mC M_X10_resume) 69 = .ok (.iaload, 1) := by decide +kernel
theorem dX10_resume_70 : decode (mC M_X10_resume) 70 = .ok (.aload_n 0, 1) := by decide +kernel
theorem dX10_resume_71 : decode (mC M_X10_resume) 71 = .ok (.getfield 42, 3) := by decide +kernel
theorem dX10_resume_74 : decode (mC M_X10_resume) 74 = .ok (.iload_n 1, 1) := by decide +kernel
theorem dX10_resume_75 : decode (mC M_X10_resume) 75 = .ok (.baload, 1) := by decide +kernel
theorem dX10_resume_76 : decode (mC M_X10_resume) 76 = .ok (.invokevirtual 106, 3) := by decide +kernel
theorem dX10_resume_79 : decode (mC M_X10_resume) 79 = .ok (.ifCond .ne 7, 3) := by decide +kernel
theorem dX10_resume_82 : decode (mC M_X10_resume) 82 = .ok (.iconst 2, 1) := by decide +kernel
theorem dX10_resume_83 : decode (mC M_X10_resume) 83 = .ok (.goto 4, 3) := by decide +kernel
theorem dX10_resume_86 : decode (mC M_X10_resume) 86 = .ok (.iconst 0, 1) := by decide +kernel
theorem dX10_resume_87 : decode (mC M_X10_resume) 87 = .ok (.putfield 72, 3) := by decide +kernel
theorem dX10_resume_90 : decode (mC M_X10_resume) 90 = .ok (.aload_n 0, 1) := by decide +kernel
theorem dX10_resume_91 : decode (mC M_X10_resume) 91 = .ok (.getfield 72, 3) := by decide +kernel
theorem dX10_resume_94 : decode (mC M_X10_resume) 94 = .ok (.ifCond .le 5, 3) := by decide +kernel
theorem dX10_resume_97 : decode (mC M_X10_resume) 97 = .ok (.iconst 0, 1) := by decide +kernel
theorem dX10_resume_98 : decode (mC M_X10_resume) 98 = .ok (.ireturn, 1) := by decide +kernel
theorem dX10_resume_99 : decode (mC M_X10_resume) 99 = .ok (.aload_n 0, 1) := by decide +kernel
theorem dX10_resume_100 : decode (mC M_X10_resume) 100 = .ok (.getfield 45, 3) := by decide +kernel
theorem dX10_resume_103 : decode (mC M_X10_resume) 103 = .ok (.iload_n 1, 1) := by decide +kernel
theorem dX10_resume_104 : decode (mC M_X10_resume) 104 = .ok (.iconst 0, 1) := by decide +kernel
theorem dX10_resume_105 : decode (mC M_X10_resume) 105 = .ok (.iastore, 1) := by decide +kernel
theorem dX10_resume_106 : decode (mC M_X10_resume) 106 = .ok (.aload_n 0, 1) := by decide +kernel
theorem dX10_resume_107 : decode (mC M_X10_resume) 107 = .ok (.getfield 21, 3) := by decide +kernel
theorem dX10_resume_110 : decode (mC M_X10_resume) 110 = .ok (.iload_n 2, 1) := by decide +kernel
theorem dX10_resume_111 : decode (mC M_X10_resume) 111 = .ok (.iload_n 1, 1) := by decide +kernel
theorem dX10_resume_112 : decode (mC M_X10_resume) 112 = .ok (.iconst 1, 1) := by decide +kernel
theorem dX10_resume_113 : decode (mC M_X10_resume) 113 = .ok (.iadd, 1) := by decide +kernel
theorem dX10_resume_114 : decode (mC M_X10_resume) 114 = .ok (.iastore, 1) := by decide +kernel
theorem dX10_resume_115 : decode (mC M_X10_resume) 115 = .ok (.aload_n 0, 1) := by decide +kernel
theorem dX10_resume_116 : decode (mC M_X10_resume) 116 = .ok (.getfield 39, 3) := by decide +kernel
theorem dX10_resume_119 : decode (mC M_X10_resume) 119 = .ok (.iconst 2, 1) := by decide +kernel
theorem dX10_resume_120 : decode (mC M_X10_resume) 120 = .ok (.iload_n 1, 1) := by decide +kernel
theorem dX10_resume_121 : decode (mC M_X10_resume) 121 = .ok (.imul, 1) := by decide +kernel
theorem dX10_resume_122 : decode (mC M_X10_resume) 122 = .ok (.aload_n 0, 1) := by decide +kernel
theorem dX10_resume_123 : decode (mC M_X10_resume) 123 = .ok (.getfield 48, 3) := by decide +kernel
theorem dX10_resume_126 : decode (mC M_X10_resume) 126 = .ok (.iload_n 1, 1) := by decide +kernel
theorem dX10_resume_127 : decode (mC M_X10_resume) 127 = .ok (.iaload, 1) := by decide +kernel
theorem dX10_resume_128 : decode (mC M_X10_resume) 128 = .ok (.iadd, 1) := by decide +kernel
theorem dX10_resume_129 : decode (mC M_X10_resume) 129 = .ok (.iaload, 1) := by decide +kernel
theorem dX10_resume_130 : decode (mC M_X10_resume) 130 = .ok (.ireturn, 1) := by decide +kernel
theorem dX10_right_0 : decode (mC M_X10_right) 0 = .ok (.iload_n 0, 1) := by decide +kernel
theorem dX10_right_1 : decode (mC M_X10_right) 1 = .ok (.iconst 1, 1) := by decide +kernel
theorem dX10_right_2 : decode (mC M_X10_right) 2 = .ok (.iconst 3, 1) := by decide +kernel
theorem dX10_right_3 : decode (mC M_X10_right) 3 = .ok (.invokestatic 75, 3) := by decide +kernel
theorem dX10_right_6 : decode (mC M_X10_right) 6 = .ok (.ifCond .eq 7, 3) := by decide +kernel
theorem dX10_right_9 : decode (mC M_X10_right) 9 = .ok (.iconst 1, 1) := by decide +kernel
theorem dX10_right_10 : decode (mC M_X10_right) 10 = .ok (.goto 18, 3) := by decide +kernel
theorem dX10_right_13 : decode (mC M_X10_right) 13 = .ok (.iload_n 0, 1) := by decide +kernel
theorem dX10_right_14 : decode (mC M_X10_right) 14 = .ok (.iconst 5, 1) := by decide +kernel
theorem dX10_right_15 : decode (mC M_X10_right) 15 = .ok (.bipush 7, 2) := by decide +kernel
theorem dX10_right_17 : decode (mC M_X10_right) 17 = .ok (.invokestatic 75, 3) := by decide +kernel
theorem dX10_right_20 : decode (mC M_X10_right) 20 = .ok (.ifCond .eq 7, 3) := by decide +kernel
theorem dX10_right_23 : decode (mC M_X10_right) 23 = .ok (.iconst (-1), 1) := by decide +kernel
theorem dX10_right_24 : decode (mC M_X10_right) 24 = .ok (.goto 4, 3) := by decide +kernel
theorem dX10_right_27 : decode (mC M_X10_right) 27 = .ok (.iconst 0, 1) := by decide +kernel
theorem dX10_right_28 : decode (mC M_X10_right) 28 = .ok (.ireturn, 1) := by decide +kernel
theorem dX10_down_0 : decode (mC M_X10_down) 0 = .ok (.iload_n 0, 1) := by decide +kernel
theorem dX10_down_1 : decode (mC M_X10_down) 1 = .ok (.iconst 3, 1) := by decide +kernel
theorem dX10_down_2 : decode (mC M_X10_down) 2 = .ok (.iconst 5, 1) := by decide +kernel
theorem dX10_down_3 : decode (mC M_X10_down) 3 = .ok (.invokestatic 75, 3) := by decide +kernel
theorem dX10_down_6 : decode (mC M_X10_down) 6 = .ok (.ifCond .eq 7, 3) := by decide +kernel
theorem dX10_down_9 : decode (mC M_X10_down) 9 = .ok (.iconst 1, 1) := by decide +kernel
theorem dX10_down_10 : decode (mC M_X10_down) 10 = .ok (.goto 23, 3) := by decide +kernel
theorem dX10_down_13 : decode (mC M_X10_down) 13 = .ok (.iload_n 0, 1) := by decide +kernel
theorem dX10_down_14 : decode (mC M_X10_down) 14 = .ok (.ifCond .eq 14, 3) := by decide +kernel
theorem dX10_down_17 : decode (mC M_X10_down) 17 = .ok (.iload_n 0, 1) := by decide +kernel
theorem dX10_down_18 : decode (mC M_X10_down) 18 = .ok (.iconst 1, 1) := by decide +kernel
theorem dX10_down_19 : decode (mC M_X10_down) 19 = .ok (.if_icmp .eq 9, 3) := by decide +kernel
theorem dX10_down_22 : decode (mC M_X10_down) 22 = .ok (.iload_n 0, 1) := by decide +kernel
theorem dX10_down_23 : decode (mC M_X10_down) 23 = .ok (.bipush 7, 2) := by decide +kernel
theorem dX10_down_25 : decode (mC M_X10_down) 25 = .ok (.if_icmp .ne 7, 3) := by decide +kernel
theorem dX10_down_28 : decode (mC M_X10_down) 28 = .ok (.iconst (-1), 1) := by decide +kernel
theorem dX10_down_29 : decode (mC M_X10_down) 29 = .ok (.goto 4, 3) := by decide +kernel
theorem dX10_down_32 : decode (mC M_X10_down) 32 = .ok (.iconst 0, 1) := by decide +kernel
theorem dX10_down_33 : decode (mC M_X10_down) 33 = .ok (.ireturn, 1) := by decide +kernel
theorem dX10_inCell_0 : decode (mC M_X10_inCell) 0 = .ok (.iconst (-1), 1) := by decide +kernel
theorem dX10_inCell_1 : decode (mC M_X10_inCell) 1 = .ok (.istore_n 2, 1) := by decide +kernel
theorem dX10_inCell_2 : decode (mC M_X10_inCell) 2 = .ok (.iconst 0, 1) := by decide +kernel
theorem dX10_inCell_3 : decode (mC M_X10_inCell) 3 = .ok (.istore_n 3, 1) := by decide +kernel
theorem dX10_inCell_4 : decode (mC M_X10_inCell) 4 = .ok (.iload_n 3, 1) := by decide +kernel
theorem dX10_inCell_5 : decode (mC M_X10_inCell) 5 = .ok (.bipush 8, 2) := by decide +kernel
theorem dX10_inCell_7 : decode (mC M_X10_inCell) 7 = .ok (.if_icmp .ge 25, 3) := by decide +kernel
theorem dX10_inCell_10 : decode (mC M_X10_inCell) 10 = .ok (.aload_n 0, 1) := by decide +kernel
theorem dX10_inCell_11 : decode (mC M_X10_inCell) 11 = .ok (.getfield 63, 3) := by decide +kernel
theorem dX10_inCell_14 : decode (mC M_X10_inCell) 14 = .ok (.iload_n 3, 1) := by decide +kernel
theorem dX10_inCell_15 : decode (mC M_X10_inCell) 15 = .ok (.iaload, 1) := by decide +kernel
theorem dX10_inCell_16 : decode (mC M_X10_inCell) 16 = .ok (.iload_n 1, 1) := by decide +kernel
theorem dX10_inCell_17 : decode (mC M_X10_inCell) 17 = .ok (.if_icmp .ne 7, 3) := by decide +kernel
theorem dX10_inCell_20 : decode (mC M_X10_inCell) 20 = .ok (.iload_n 3, 1) := by decide +kernel
theorem dX10_inCell_21 : decode (mC M_X10_inCell) 21 = .ok (.goto 4, 3) := by decide +kernel
theorem dX10_inCell_24 : decode (mC M_X10_inCell) 24 = .ok (.iload_n 2, 1) := by decide +kernel
theorem dX10_inCell_25 : decode (mC M_X10_inCell) 25 = .ok (.istore_n 2, 1) := by decide +kernel
theorem dX10_inCell_26 : decode (mC M_X10_inCell) 26 = .ok (.iinc 3 1, 3) := by decide +kernel
theorem dX10_inCell_29 : decode (mC M_X10_inCell) 29 = .ok (.goto (-25), 3) := by decide +kernel
theorem dX10_inCell_32 : decode (mC M_X10_inCell) 32 = .ok (.iload_n 2, 1) := by decide +kernel
theorem dX10_inCell_33 : decode (mC M_X10_inCell) 33 = .ok (.ireturn, 1) := by decide +kernel
theorem dX10_rolls_0 : decode (mC M_X10_rolls) 0 = .ok (.aload_n 0, 1) := by decide +kernel
theorem dX10_rolls_1 : decode (mC M_X10_rolls) 1 = .ok (.getfield 63, 3) := by decide +kernel
theorem dX10_rolls_4 : decode (mC M_X10_rolls) 4 = .ok (.iload_n 1, 1) := by decide +kernel
theorem dX10_rolls_5 : decode (mC M_X10_rolls) 5 = .ok (.iaload, 1) := by decide +kernel
theorem dX10_rolls_6 : decode (mC M_X10_rolls) 6 = .ok (.bipush 16, 2) := by decide +kernel
theorem dX10_rolls_8 : decode (mC M_X10_rolls) 8 = .ok (.irem, 1) := by decide +kernel
theorem dX10_rolls_9 : decode (mC M_X10_rolls) 9 = .ok (.aload_n 0, 1) := by decide +kernel
theorem dX10_rolls_10 : decode (mC M_X10_rolls) 10 = .ok (.getfield 66, 3) := by decide +kernel
theorem dX10_rolls_13 : decode (mC M_X10_rolls) 13 = .ok (.iload_n 1, 1) := by decide +kernel
theorem dX10_rolls_14 : decode (mC M_X10_rolls) 14 = .ok (.iaload, 1) := by decide +kernel
theorem dX10_rolls_15 : decode (mC M_X10_rolls) 15 = .ok (.invokestatic 113, 3) := by decide +kernel
theorem dX10_rolls_18 : decode (mC M_X10_rolls) 18 = .ok (.iadd, 1) := by decide +kernel
theorem dX10_rolls_19 : decode (mC M_X10_rolls) 19 = .ok (.istore_n 2, 1) := by decide +kernel
theorem dX10_rolls_20 : decode (mC M_X10_rolls) 20 = .ok (.aload_n 0, 1) := by decide +kernel
theorem dX10_rolls_21 : decode (mC M_X10_rolls) 21 = .ok (.getfield 63, 3) := by decide +kernel
theorem dX10_rolls_24 : decode (mC M_X10_rolls) 24 = .ok (.iload_n 1, 1) := by decide +kernel
theorem dX10_rolls_25 : decode (mC M_X10_rolls) 25 = .ok (.iaload, 1) := by decide +kernel
theorem dX10_rolls_26 : decode (mC M_X10_rolls) 26 = .ok (.bipush 16, 2) := by decide +kernel
theorem dX10_rolls_28 : decode (mC M_X10_rolls) 28 = .ok (.idiv, 1) := by decide +kernel
theorem dX10_rolls_29 : decode (mC M_X10_rolls) 29 = .ok (.aload_n 0, 1) := by decide +kernel
theorem dX10_rolls_30 : decode (mC M_X10_rolls) 30 = .ok (.getfield 66, 3) := by decide +kernel
theorem dX10_rolls_33 : decode (mC M_X10_rolls) 33 = .ok (.iload_n 1, 1) := by decide +kernel
theorem dX10_rolls_34 : decode (mC M_X10_rolls) 34 = .ok (.iaload, 1) := by decide +kernel
theorem dX10_rolls_35 : decode (mC M_X10_rolls) 35 = .ok (.invokestatic 116, 3) := by decide +kernel
theorem dX10_rolls_38 : decode (mC M_X10_rolls) 38 = .ok (.iadd, 1) := by decide +kernel
theorem dX10_rolls_39 : decode (mC M_X10_rolls) 39 = .ok (.istore_n 3, 1) := by decide +kernel
theorem dX10_rolls_40 : decode (mC M_X10_rolls) 40 = .ok (.iload_n 2, 1) := by decide +kernel
theorem dX10_rolls_41 : decode (mC M_X10_rolls) 41 = .ok (.iconst 0, 1) := by decide +kernel
theorem dX10_rolls_42 : decode (mC M_X10_rolls) 42 = .ok (.bipush 15, 2) := by decide +kernel
theorem dX10_rolls_44 : decode (mC M_X10_rolls) 44 = .ok (.invokestatic 75, 3) := by decide +kernel
theorem dX10_rolls_47 : decode (mC M_X10_rolls) 47 = .ok (.ifCond .ne 7, 3) := by decide +kernel
theorem dX10_rolls_50 : decode (mC M_X10_rolls) 50 = .ok (.iconst 1, 1) := by decide +kernel
theorem dX10_rolls_51 : decode (mC M_X10_rolls) 51 = .ok (.goto 4, 3) := by decide +kernel
theorem dX10_rolls_54 : decode (mC M_X10_rolls) 54 = .ok (.iconst 0, 1) := by decide +kernel
theorem dX10_rolls_55 : decode (mC M_X10_rolls) 55 = .ok (.istore 4, 2) := by decide +kernel
theorem dX10_rolls_57 : decode (mC M_X10_rolls) 57 = .ok (.iload_n 3, 1) := by decide +kernel
theorem dX10_rolls_58 : decode (mC M_X10_rolls) 58 = .ok (.iconst 0, 1) := by decide +kernel
theorem dX10_rolls_59 : decode (mC M_X10_rolls) 59 = .ok (.bipush 7, 2) := by decide +kernel
theorem dX10_rolls_61 : decode (mC M_X10_rolls) 61 = .ok (.invokestatic 75, 3) := by decide +kernel
theorem dX10_rolls_64 : decode (mC M_X10_rolls) 64 = .ok (.ifCond .ne 7, 3) := by decide +kernel
theorem dX10_rolls_67 : decode (mC M_X10_rolls) 67 = .ok (.iconst 1, 1) := by decide +kernel
theorem dX10_rolls_68 : decode (mC M_X10_rolls) 68 = .ok (.goto 4, 3) := by decide +kernel
theorem dX10_rolls_71 : decode (mC M_X10_rolls) 71 = .ok (.iconst 0, 1) := by decide +kernel
theorem dX10_rolls_72 : decode (mC M_X10_rolls) 72 = .ok (.istore 5, 2) := by decide +kernel
theorem dX10_rolls_74 : decode (mC M_X10_rolls) 74 = .ok (.iload 4, 2) := by decide +kernel
theorem dX10_rolls_76 : decode (mC M_X10_rolls) 76 = .ok (.ifCond .ne 8, 3) := by decide +kernel
theorem dX10_rolls_79 : decode (mC M_X10_rolls) 79 = .ok (.iload 5, 2) := by decide +kernel
theorem dX10_rolls_81 : decode (mC M_X10_rolls) 81 = .ok (.ifCond .eq 78, 3) := by decide +kernel
theorem dX10_rolls_84 : decode (mC M_X10_rolls) 84 = .ok (.aload_n 0, 1) := by decide +kernel
theorem dX10_rolls_85 : decode (mC M_X10_rolls) 85 = .ok (.getfield 66, 3) := by decide +kernel
theorem dX10_rolls_88 : decode (mC M_X10_rolls) 88 = .ok (.iload_n 1, 1) := by decide +kernel
theorem dX10_rolls_89 : decode (mC M_X10_rolls) 89 = .ok (.iload 4, 2) := by decide +kernel
theorem dX10_rolls_91 : decode (mC M_X10_rolls) 91 = .ok (.ifCond .eq 18, 3) := by decide +kernel
theorem dX10_rolls_94 : decode (mC M_X10_rolls) 94 = .ok (.bipush 8, 2) := by decide +kernel
theorem dX10_rolls_96 : decode (mC M_X10_rolls) 96 = .ok (.aload_n 0, 1) := by decide +kernel
theorem dX10_rolls_97 : decode (mC M_X10_rolls) 97 = .ok (.getfield 66, 3) := by decide +kernel
theorem dX10_rolls_100 : decode (mC M_X10_rolls) 100 = .ok (.iload_n 1, 1) := by decide +kernel
theorem dX10_rolls_101 : decode (mC M_X10_rolls) 101 = .ok (.iaload, 1) := by decide +kernel
theorem dX10_rolls_102 : decode (mC M_X10_rolls) 102 = .ok (.isub, 1) := by decide +kernel
theorem dX10_rolls_103 : decode (mC M_X10_rolls) 103 = .ok (.bipush 8, 2) := by decide +kernel
theorem dX10_rolls_105 : decode (mC M_X10_rolls) 105 = .ok (.irem, 1) := by decide +kernel
theorem dX10_rolls_106 : decode (mC M_X10_rolls) 106 = .ok (.goto 9, 3) := by decide +kernel
theorem dX10_rolls_109 : decode (mC M_X10_rolls) 109 = .ok (.aload_n 0, 1) := by decide +kernel
theorem dX10_rolls_110 : decode (mC M_X10_rolls) 110 = .ok (.getfield 66, 3) := by decide +kernel
theorem dX10_rolls_113 : decode (mC M_X10_rolls) 113 = .ok (.iload_n 1, 1) := by decide +kernel
theorem dX10_rolls_114 : decode (mC M_X10_rolls) 114 = .ok (.iaload, 1) := by decide +kernel
theorem dX10_rolls_115 : decode (mC M_X10_rolls) 115 = .ok (.iastore, 1) := by decide +kernel
theorem dX10_rolls_116 : decode (mC M_X10_rolls) 116 = .ok (.aload_n 0, 1) := by decide +kernel
theorem dX10_rolls_117 : decode (mC M_X10_rolls) 117 = .ok (.getfield 66, 3) := by decide +kernel
theorem dX10_rolls_120 : decode (mC M_X10_rolls) 120 = .ok (.iload_n 1, 1) := by decide +kernel
theorem dX10_rolls_121 : decode (mC M_X10_rolls) 121 = .ok (.iload 5, 2) := by decide +kernel
theorem dX10_rolls_123 : decode (mC M_X10_rolls) 123 = .ok (.ifCond .eq 18, 3) := by decide +kernel
theorem dX10_rolls_126 : decode (mC M_X10_rolls) 126 = .ok (.bipush 12, 2) := by decide +kernel
theorem dX10_rolls_128 : decode (mC M_X10_rolls) 128 = .ok (.aload_n 0, 1) := by decide +kernel
theorem dX10_rolls_129 : decode (mC M_X10_rolls) 129 = .ok (.getfield 66, 3) := by decide +kernel
theorem dX10_rolls_132 : decode (mC M_X10_rolls) 132 = .ok (.iload_n 1, 1) := by decide +kernel
theorem dX10_rolls_133 : decode (mC M_X10_rolls) 133 = .ok (.iaload, 1) := by decide +kernel
theorem dX10_rolls_134 : decode (mC M_X10_rolls) 134 = .ok (.isub, 1) := by decide +kernel
theorem dX10_rolls_135 : decode (mC M_X10_rolls) 135 = .ok (.bipush 8, 2) := by decide +kernel
theorem dX10_rolls_137 : decode (mC M_X10_rolls) 137 = .ok (.irem, 1) := by decide +kernel
theorem dX10_rolls_138 : decode (mC M_X10_rolls) 138 = .ok (.goto 9, 3) := by decide +kernel
theorem dX10_rolls_141 : decode (mC M_X10_rolls) 141 = .ok (.aload_n 0, 1) := by decide +kernel
theorem dX10_rolls_142 : decode (mC M_X10_rolls) 142 = .ok (.getfield 66, 3) := by decide +kernel
theorem dX10_rolls_145 : decode (mC M_X10_rolls) 145 = .ok (.iload_n 1, 1) := by decide +kernel
theorem dX10_rolls_146 : decode (mC M_X10_rolls) 146 = .ok (.iaload, 1) := by decide +kernel
theorem dX10_rolls_147 : decode (mC M_X10_rolls) 147 = .ok (.iastore, 1) := by decide +kernel
theorem dX10_rolls_148 : decode (mC M_X10_rolls) 148 = .ok (.aload_n 0, 1) := by decide +kernel
theorem dX10_rolls_149 : decode (mC M_X10_rolls) 149 = .ok (.getfield 69, 3) := by decide +kernel
theorem dX10_rolls_152 : decode (mC M_X10_rolls) 152 = .ok (.iload_n 1, 1) := by decide +kernel
theorem dX10_rolls_153 : decode (mC M_X10_rolls) 153 = .ok (.dup2, 1) := by decide +kernel
theorem dX10_rolls_154 : decode (mC M_X10_rolls) 154 = .ok (.iaload, 1) := by decide +kernel
theorem dX10_rolls_155 : decode (mC M_X10_rolls) 155 = .ok (.iconst 1, 1) := by decide +kernel
theorem dX10_rolls_156 : decode (mC M_X10_rolls) 156 = .ok (.isub, 1) := by decide +kernel
theorem dX10_rolls_157 : decode (mC M_X10_rolls) 157 = .ok (.iastore, 1) := by decide +kernel
theorem dX10_rolls_158 : decode (mC M_X10_rolls) 158 = .ok (.return_, 1) := by decide +kernel
theorem dX10_rolls_159 : decode (mC M_X10_rolls) 159 = .ok (.aload_n 0, 1) := by decide +kernel
theorem dX10_rolls_160 : decode (mC M_X10_rolls) 160 = .ok (.bipush 16, 2) := by decide +kernel
theorem dX10_rolls_162 : decode (mC M_X10_rolls) 162 = .ok (.iload_n 3, 1) := by decide +kernel
theorem dX10_rolls_163 : decode (mC M_X10_rolls) 163 = .ok (.imul, 1) := by decide +kernel
theorem dX10_rolls_164 : decode (mC M_X10_rolls) 164 = .ok (.iload_n 2, 1) := by decide +kernel
theorem dX10_rolls_165 : decode (mC M_X10_rolls) 165 = .ok (.iadd, 1) := by decide +kernel
theorem dX10_rolls_166 : decode (mC M_X10_rolls) 166 = .ok (.invokevirtual 119, 3) := by decide +kernel
theorem dX10_rolls_169 : decode (mC M_X10_rolls) 169 = .ok (.istore 6, 2) := by decide +kernel
theorem dX10_rolls_171 : decode (mC M_X10_rolls) 171 = .ok (.iload 6, 2) := by decide +kernel
theorem dX10_rolls_173 : decode (mC M_X10_rolls) 173 = .ok (.ifCond .lt 86, 3) := by decide +kernel
theorem dX10_rolls_176 : decode (mC M_X10_rolls) 176 = .ok (.aload_n 0, 1) := by decide +kernel
theorem dX10_rolls_177 : decode (mC M_X10_rolls) 177 = .ok (.getfield 69, 3) := by decide +kernel
theorem dX10_rolls_180 : decode (mC M_X10_rolls) 180 = .ok (.iload_n 1, 1) := by decide +kernel
theorem dX10_rolls_181 : decode (mC M_X10_rolls) 181 = .ok (.iaload, 1) := by decide +kernel
theorem dX10_rolls_182 : decode (mC M_X10_rolls) 182 = .ok (.iconst 1, 1) := by decide +kernel
theorem dX10_rolls_183 : decode (mC M_X10_rolls) 183 = .ok (.iadd, 1) := by decide +kernel
theorem dX10_rolls_184 : decode (mC M_X10_rolls) 184 = .ok (.iconst 2, 1) := by decide +kernel
theorem dX10_rolls_185 : decode (mC M_X10_rolls) 185 = .ok (.idiv, 1) := by decide +kernel
theorem dX10_rolls_186 : decode (mC M_X10_rolls) 186 = .ok (.istore 7, 2) := by decide +kernel
theorem dX10_rolls_188 : decode (mC M_X10_rolls) 188 = .ok (.aload_n 0, 1) := by decide +kernel
theorem dX10_rolls_189 : decode (mC M_X10_rolls) 189 = .ok (.getfield 69, 3) := by decide +kernel
theorem dX10_rolls_192 : decode (mC M_X10_rolls) 192 = .ok (.iload_n 1, 1) := by decide +kernel
theorem dX10_rolls_193 : decode (mC M_X10_rolls) 193 = .ok (.dup2, 1) := by decide +kernel
theorem dX10_rolls_194 : decode (mC M_X10_rolls) 194 = .ok (.iaload, 1) := by decide +kernel
theorem dX10_rolls_195 : decode (mC M_X10_rolls) 195 = .ok (.iload 7, 2) := by decide +kernel
theorem dX10_rolls_197 : decode (mC M_X10_rolls) 197 = .ok (.isub, 1) := by decide +kernel
theorem dX10_rolls_198 : decode (mC M_X10_rolls) 198 = .ok (.iastore, 1) := by decide +kernel
theorem dX10_rolls_199 : decode (mC M_X10_rolls) 199 = .ok (.aload_n 0, 1) := by decide +kernel
theorem dX10_rolls_200 : decode (mC M_X10_rolls) 200 = .ok (.getfield 69, 3) := by decide +kernel
theorem dX10_rolls_203 : decode (mC M_X10_rolls) 203 = .ok (.iload 6, 2) := by decide +kernel
theorem dX10_rolls_205 : decode (mC M_X10_rolls) 205 = .ok (.dup2, 1) := by decide +kernel
theorem dX10_rolls_206 : decode (mC M_X10_rolls) 206 = .ok (.iaload, 1) := by decide +kernel
theorem dX10_rolls_207 : decode (mC M_X10_rolls) 207 = .ok (.iload 7, 2) := by decide +kernel
theorem dX10_rolls_209 : decode (mC M_X10_rolls) 209 = .ok (.iadd, 1) := by decide +kernel
theorem dX10_rolls_210 : decode (mC M_X10_rolls) 210 = .ok (.iastore, 1) := by decide +kernel
theorem dX10_rolls_211 : decode (mC M_X10_rolls) 211 = .ok (.aload_n 0, 1) := by decide +kernel
theorem dX10_rolls_212 : decode (mC M_X10_rolls) 212 = .ok (.getfield 66, 3) := by decide +kernel
theorem dX10_rolls_215 : decode (mC M_X10_rolls) 215 = .ok (.iload 6, 2) := by decide +kernel
theorem dX10_rolls_217 : decode (mC M_X10_rolls) 217 = .ok (.aload_n 0, 1) := by decide +kernel
theorem dX10_rolls_218 : decode (mC M_X10_rolls) 218 = .ok (.getfield 66, 3) := by decide +kernel
theorem dX10_rolls_221 : decode (mC M_X10_rolls) 221 = .ok (.iload_n 1, 1) := by decide +kernel
theorem dX10_rolls_222 : decode (mC M_X10_rolls) 222 = .ok (.iaload, 1) := by decide +kernel
theorem dX10_rolls_223 : decode (mC M_X10_rolls) 223 = .ok (.iastore, 1) := by decide +kernel
theorem dX10_rolls_224 : decode (mC M_X10_rolls) 224 = .ok (.aload_n 0, 1) := by decide +kernel
theorem dX10_rolls_225 : decode (mC M_X10_rolls) 225 = .ok (.dup, 1) := by decide +kernel
theorem dX10_rolls_226 : decode (mC M_X10_rolls) 226 = .ok (.getfield 122, 3) := by decide +kernel
theorem dX10_rolls_229 : decode (mC M_X10_rolls) 229 = .ok (.iconst 1, 1) := by decide +kernel
theorem dX10_rolls_230 : decode (mC M_X10_rolls) 230 = .ok (.iadd, 1) := by decide +kernel
theorem dX10_rolls_231 : decode (mC M_X10_rolls) 231 = .ok (.putfield 122, 3) := by decide +kernel
theorem dX10_rolls_234 : decode (mC M_X10_rolls) 234 = .ok (.aload_n 0, 1) := by decide +kernel
theorem dX10_rolls_235 : decode (mC M_X10_rolls) 235 = .ok (.iload_n 1, 1) := by decide +kernel
theorem dX10_rolls_236 : decode (mC M_X10_rolls) 236 = .ok (.ifCond .ne 15, 3) := by decide +kernel
theorem dX10_rolls_239 : decode (mC M_X10_rolls) 239 = .ok (.aload_n 0, 1) := by decide +kernel
theorem dX10_rolls_240 : decode (mC M_X10_rolls) 240 = .ok (.getfield 125, 3) := by decide +kernel
theorem dX10_rolls_243 : decode (mC M_X10_rolls) 243 = .ok (.ifCond .ge 8, 3) := by decide +kernel
theorem dX10_rolls_246 : decode (mC M_X10_rolls) 246 = .ok (.iload 6, 2) := by decide +kernel
theorem dX10_rolls_248 : decode (mC M_X10_rolls) 248 = .ok (.goto 7, 3) := by decide +kernel
theorem dX10_rolls_251 : decode (mC M_X10_rolls) 251 = .ok (.aload_n 0, 1) := by decide +kernel
theorem dX10_rolls_252 : decode (mC M_X10_rolls) 252 = .ok (.getfield 125, 3) := by decide +kernel
theorem dX10_rolls_255 : decode (mC M_X10_rolls) 255 = .ok (.putfield 125, 3) := by decide +kernel
theorem dX10_rolls_258 : decode (mC M_X10_rolls) 258 = .ok (.return_, 1) := by decide +kernel
theorem dX10_rolls_259 : decode (mC M_X10_rolls) 259 = .ok (.aload_n 0, 1) := by decide +kernel
theorem dX10_rolls_260 : decode (mC M_X10_rolls) 260 = .ok (.getfield 63, 3) := by decide +kernel
theorem dX10_rolls_263 : decode (mC M_X10_rolls) 263 = .ok (.iload_n 1, 1) := by decide +kernel
theorem dX10_rolls_264 : decode (mC M_X10_rolls) 264 = .ok (.bipush 16, 2) := by decide +kernel
theorem dX10_rolls_266 : decode (mC M_X10_rolls) 266 = .ok (.iload_n 3, 1) := by decide +kernel
theorem dX10_rolls_267 : decode (mC M_X10_rolls) 267 = .ok (.imul, 1) := by decide +kernel
theorem dX10_rolls_268 : decode (mC M_X10_rolls) 268 = .ok (.iload_n 2, 1) := by decide +kernel
theorem dX10_rolls_269 : decode (mC M_X10_rolls) 269 = .ok (.iadd, 1) := by decide +kernel
theorem dX10_rolls_270 : decode (mC M_X10_rolls) 270 = .ok (.iastore, 1) := by decide +kernel
theorem dX10_rolls_271 : decode (mC M_X10_rolls) 271 = .ok (.aload_n 0, 1) := by decide +kernel
theorem dX10_rolls_272 : decode (mC M_X10_rolls) 272 = .ok (.getfield 69, 3) := by decide +kernel
theorem dX10_rolls_275 : decode (mC M_X10_rolls) 275 = .ok (.iload_n 1, 1) := by decide +kernel
theorem dX10_rolls_276 : decode (mC M_X10_rolls) 276 = .ok (.dup2, 1) := by decide +kernel
theorem dX10_rolls_277 : decode (mC M_X10_rolls) 277 = .ok (.iaload, 1) := by decide +kernel
theorem dX10_rolls_278 : decode (mC M_X10_rolls) 278 = .ok (.iconst 1, 1) := by decide +kernel
theorem dX10_rolls_279 : decode (mC M_X10_rolls) 279 = .ok (.isub, 1) := by decide +kernel
theorem dX10_rolls_280 : decode (mC M_X10_rolls) 280 = .ok (.iastore, 1) := by decide +kernel
theorem dX10_rolls_281 : decode (mC M_X10_rolls) 281 = .ok (.aload_n 0, 1) := by decide +kernel
theorem dX10_rolls_282 : decode (mC M_X10_rolls) 282 = .ok (.getfield 63, 3) := by decide +kernel
theorem dX10_rolls_285 : decode (mC M_X10_rolls) 285 = .ok (.iload_n 1, 1) := by decide +kernel
theorem dX10_rolls_286 : decode (mC M_X10_rolls) 286 = .ok (.iaload, 1) := by decide +kernel
theorem dX10_rolls_287 : decode (mC M_X10_rolls) 287 = .ok (.invokestatic 128, 3) := by decide +kernel
theorem dX10_rolls_290 : decode (mC M_X10_rolls) 290 = .ok (.ifCond .eq 22, 3) := by decide +kernel
theorem dX10_rolls_293 : decode (mC M_X10_rolls) 293 = .ok (.aload_n 0, 1) := by decide +kernel
theorem dX10_rolls_294 : decode (mC M_X10_rolls) 294 = .ok (.getfield 63, 3) := by decide +kernel
theorem dX10_rolls_297 : decode (mC M_X10_rolls) 297 = .ok (.iload_n 1, 1) := by decide +kernel
theorem dX10_rolls_298 : decode (mC M_X10_rolls) 298 = .ok (.iconst (-1), 1) := by decide +kernel
theorem dX10_rolls_299 : decode (mC M_X10_rolls) 299 = .ok (.iastore, 1) := by decide +kernel
theorem dX10_rolls_300 : decode (mC M_X10_rolls) 300 = .ok (.aload_n 0, 1) := by decide +kernel
theorem dX10_rolls_301 : decode (mC M_X10_rolls) 301 = .ok (.dup, 1) := by decide +kernel
theorem dX10_rolls_302 : decode (mC M_X10_rolls) 302 = .ok (.getfield 131, 3) := by decide +kernel
theorem dX10_rolls_305 : decode (mC M_X10_rolls) 305 = .ok (.iconst 1, 1) := by decide +kernel
theorem dX10_rolls_306 : decode (mC M_X10_rolls) 306 = .ok (.iload_n 1, 1) := by decide +kernel
theorem dX10_rolls_307 : decode (mC M_X10_rolls) 307 = .ok (.ishl, 1) := by decide +kernel
theorem dX10_rolls_308 : decode (mC M_X10_rolls) 308 = .ok (.ior, 1) := by decide +kernel
theorem dX10_rolls_309 : decode (mC M_X10_rolls) 309 = .ok (.putfield 131, 3) := by decide +kernel
theorem dX10_rolls_312 : decode (mC M_X10_rolls) 312 = .ok (.return_, 1) := by decide +kernel
theorem dX10_isRolling_0 : decode (mC M_X10_isRolling) 0 = .ok (.iconst 0, 1) := by decide +kernel
theorem dX10_isRolling_1 : decode (mC M_X10_isRolling) 1 = .ok (.istore_n 1, 1) := by decide +kernel
theorem dX10_isRolling_2 : decode (mC M_X10_isRolling) 2 = .ok (.iconst 0, 1) := by decide +kernel
theorem dX10_isRolling_3 : decode (mC M_X10_isRolling) 3 = .ok (.istore_n 2, 1) := by decide +kernel
theorem dX10_isRolling_4 : decode (mC M_X10_isRolling) 4 = .ok (.iload_n 2, 1) := by decide +kernel
theorem dX10_isRolling_5 : decode (mC M_X10_isRolling) 5 = .ok (.bipush 8, 2) := by decide +kernel
theorem dX10_isRolling_7 : decode (mC M_X10_isRolling) 7 = .ok (.if_icmp .ge 35, 3) := by decide +kernel
theorem dX10_isRolling_10 : decode (mC M_X10_isRolling) 10 = .ok (.iload_n 1, 1) := by decide +kernel
theorem dX10_isRolling_11 : decode (mC M_X10_isRolling) 11 = .ok (.aload_n 0, 1) := by decide +kernel
theorem dX10_isRolling_12 : decode (mC M_X10_isRolling) 12 = .ok (.getfield 63, 3) := by decide +kernel
theorem dX10_isRolling_15 : decode (mC M_X10_isRolling) 15 = .ok (.iload_n 2, 1) := by decide +kernel
theorem dX10_isRolling_16 : decode (mC M_X10_isRolling) 16 = .ok (.iaload, 1) := by decide +kernel
theorem dX10_isRolling_17 : decode (mC M_X10_isRolling) 17 = .ok (.ifCond .lt 16, 3) := by decide +kernel
theorem dX10_isRolling_20 : decode (mC M_X10_isRolling) 20 = .ok (.aload_n 0, 1) := by decide +kernel
theorem dX10_isRolling_21 : decode (mC M_X10_isRolling) 21 = .ok (.getfield 69, 3) := by decide +kernel
theorem dX10_isRolling_24 : decode (mC M_X10_isRolling) 24 = .ok (.iload_n 2, 1) := by decide +kernel
theorem dX10_isRolling_25 : decode (mC M_X10_isRolling) 25 = .ok (.iaload, 1) := by decide +kernel
theorem dX10_isRolling_26 : decode (mC M_X10_isRolling) 26 = .ok (.ifCond .le 7, 3) := by decide +kernel
theorem dX10_isRolling_29 : decode (mC M_X10_isRolling) 29 = .ok (.iconst 1, 1) := by decide +kernel
theorem dX10_isRolling_30 : decode (mC M_X10_isRolling) 30 = .ok (.goto 4, 3) := by decide +kernel
theorem dX10_isRolling_33 : decode (mC M_X10_isRolling) 33 = .ok (.iconst 0, 1) := by decide +kernel
theorem dX10_isRolling_34 : decode (mC M_X10_isRolling) 34 = .ok (.ior, 1) := by decide +kernel
theorem dX10_isRolling_35 : decode (mC M_X10_isRolling) 35 = .ok (.istore_n 1, 1) := by decide +kernel
theorem dX10_isRolling_36 : decode (mC M_X10_isRolling) 36 = .ok (.iinc 2 1, 3) := by decide +kernel
theorem dX10_isRolling_39 : decode (mC M_X10_isRolling) 39 = .ok (.goto (-35), 3) := by decide +kernel
theorem dX10_isRolling_42 : decode (mC M_X10_isRolling) 42 = .ok (.iload_n 1, 1) := by decide +kernel
theorem dX10_isRolling_43 : decode (mC M_X10_isRolling) 43 = .ok (.ireturn, 1) := by decide +kernel
theorem dX10_shot_0 : decode (mC M_X10_shot) 0 = .ok (.iconst 0, 1) := by decide +kernel
theorem dX10_shot_1 : decode (mC M_X10_shot) 1 = .ok (.istore 4, 2) := by decide +kernel
theorem dX10_shot_3 : decode (mC M_X10_shot) 3 = .ok (.iload 4, 2) := by decide +kernel
theorem dX10_shot_5 : decode (mC M_X10_shot) 5 = .ok (.bipush 8, 2) := by decide +kernel
theorem dX10_shot_7 : decode (mC M_X10_shot) 7 = .ok (.if_icmp .ge 44, 3) := by decide +kernel
theorem dX10_shot_10 : decode (mC M_X10_shot) 10 = .ok (.aload_n 0, 1) := by decide +kernel
theorem dX10_shot_11 : decode (mC M_X10_shot) 11 = .ok (.getfield 63, 3) := by decide +kernel
theorem dX10_shot_14 : decode (mC M_X10_shot) 14 = .ok (.iload 4, 2) := by decide +kernel
theorem dX10_shot_16 : decode (mC M_X10_shot) 16 = .ok (.aload_n 0, 1) := by decide +kernel
theorem dX10_shot_17 : decode (mC M_X10_shot) 17 = .ok (.getfield 60, 3) := by decide +kernel
theorem dX10_shot_20 : decode (mC M_X10_shot) 20 = .ok (.bipush 8, 2) := by decide +kernel
theorem dX10_shot_22 : decode (mC M_X10_shot) 22 = .ok (.iload_n 1, 1) := by decide +kernel
theorem dX10_shot_23 : decode (mC M_X10_shot) 23 = .ok (.imul, 1) := by decide +kernel
theorem dX10_shot_24 : decode (mC M_X10_shot) 24 = .ok (.iload 4, 2) := by decide +kernel
theorem dX10_shot_26 : decode (mC M_X10_shot) 26 = .ok (.iadd, 1) := by decide +kernel
theorem dX10_shot_27 : decode (mC M_X10_shot) 27 = .ok (.iaload, 1) := by decide +kernel
theorem dX10_shot_28 : decode (mC M_X10_shot) 28 = .ok (.iastore, 1) := by decide +kernel
theorem dX10_shot_29 : decode (mC M_X10_shot) 29 = .ok (.aload_n 0, 1) := by decide +kernel
theorem dX10_shot_30 : decode (mC M_X10_shot) 30 = .ok (.getfield 69, 3) := by decide +kernel
theorem dX10_shot_33 : decode (mC M_X10_shot) 33 = .ok (.iload 4, 2) := by decide +kernel
theorem dX10_shot_35 : decode (mC M_X10_shot) 35 = .ok (.iconst 0, 1) := by decide +kernel
theorem dX10_shot_36 : decode (mC M_X10_shot) 36 = .ok (.iastore, 1) := by decide +kernel
theorem dX10_shot_37 : decode (mC M_X10_shot) 37 = .ok (.aload_n 0, 1) := by decide +kernel
theorem dX10_shot_38 : decode (mC M_X10_shot) 38 = .ok (.getfield 66, 3) := by decide +kernel
theorem dX10_shot_41 : decode (mC M_X10_shot) 41 = .ok (.iload 4, 2) := by decide +kernel
theorem dX10_shot_43 : decode (mC M_X10_shot) 43 = .ok (.iconst 0, 1) := by decide +kernel
theorem dX10_shot_44 : decode (mC M_X10_shot) 44 = .ok (.iastore, 1) := by decide +kernel
theorem dX10_shot_45 : decode (mC M_X10_shot) 45 = .ok (.iinc 4 1, 3) := by decide +kernel
theorem dX10_shot_48 : decode (mC M_X10_shot) 48 = .ok (.goto (-45), 3) := by decide +kernel
theorem dX10_shot_51 : decode (mC M_X10_shot) 51 = .ok (.aload_n 0, 1) := by decide +kernel
theorem dX10_shot_52 : decode (mC M_X10_shot) 52 = .ok (.getfield 66, 3) := by decide +kernel
theorem dX10_shot_55 : decode (mC M_X10_shot) 55 = .ok (.iconst 0, 1) := by decide +kernel
theorem dX10_shot_56 : decode (mC M_X10_shot) 56 = .ok (.iload_n 2, 1) := by decide +kernel
theorem dX10_shot_57 : decode (mC M_X10_shot) 57 = .ok (.iastore, 1) := by decide +kernel
theorem dX10_shot_58 : decode (mC M_X10_shot) 58 = .ok (.aload_n 0, 1) := by decide +kernel
theorem dX10_shot_59 : decode (mC M_X10_shot) 59 = .ok (.getfield 69, 3) := by decide +kernel
theorem dX10_shot_62 : decode (mC M_X10_shot) 62 = .ok (.iconst 0, 1) := by decide +kernel
theorem dX10_shot_63 : decode (mC M_X10_shot) 63 = .ok (.aload_n 0, 1) := by decide +kernel
theorem dX10_shot_64 : decode (mC M_X10_shot) 64 = .ok (.getfield 63, 3) := by decide +kernel
theorem dX10_shot_67 : decode (mC M_X10_shot) 67 = .ok (.iconst 0, 1) := by decide +kernel
theorem dX10_shot_68 : decode (mC M_X10_shot) 68 = .ok (.iaload, 1) := by decide +kernel
theorem dX10_shot_69 : decode (mC M_X10_shot) 69 = .ok (.ifCond .ge 7, 3) := by decide +kernel
theorem dX10_shot_72 : decode (mC M_X10_shot) 72 = .ok (.iconst 0, 1) := by decide +kernel
theorem dX10_shot_73 : decode (mC M_X10_shot) 73 = .ok (.goto 4, 3) := by decide +kernel
theorem dX10_shot_76 : decode (mC M_X10_shot) 76 = .ok (.iload_n 3, 1) := by decide +kernel
theorem dX10_shot_77 : decode (mC M_X10_shot) 77 = .ok (.iastore, 1) := by decide +kernel
theorem dX10_shot_78 : decode (mC M_X10_shot) 78 = .ok (.aload_n 0, 1) := by decide +kernel
theorem dX10_shot_79 : decode (mC M_X10_shot) 79 = .ok (.iconst (-1), 1) := by decide +kernel
theorem dX10_shot_80 : decode (mC M_X10_shot) 80 = .ok (.putfield 125, 3) := by decide +kernel
theorem dX10_shot_83 : decode (mC M_X10_shot) 83 = .ok (.aload_n 0, 1) := by decide +kernel
theorem dX10_shot_84 : decode (mC M_X10_shot) 84 = .ok (.iconst 0, 1) := by decide +kernel
theorem dX10_shot_85 : decode (mC M_X10_shot) 85 = .ok (.putfield 122, 3) := by decide +kernel
theorem dX10_shot_88 : decode (mC M_X10_shot) 88 = .ok (.aload_n 0, 1) := by decide +kernel
theorem dX10_shot_89 : decode (mC M_X10_shot) 89 = .ok (.iconst 0, 1) := by decide +kernel
theorem dX10_shot_90 : decode (mC M_X10_shot) 90 = .ok (.putfield 131, 3) := by decide +kernel
theorem dX10_shot_93 : decode (mC M_X10_shot) 93 = .ok (.iconst 0, 1) := by decide +kernel
theorem dX10_shot_94 : decode (mC M_X10_shot) 94 = .ok (.istore 4, 2) := by decide +kernel
theorem dX10_shot_96 : decode (mC M_X10_shot) 96 = .ok (.iload 4, 2) := by decide +kernel
theorem dX10_shot_98 : decode (mC M_X10_shot) 98 = .ok (.sipush 300, 3) := by decide +kernel
theorem dX10_shot_101 : decode (mC M_X10_shot) 101 = .ok (.if_icmp .ge 58, 3) := by decide +kernel
theorem dX10_shot_104 : decode (mC M_X10_shot) 104 = .ok (.aload_n 0, 1) := by decide +kernel
theorem dX10_shot_105 : decode (mC M_X10_shot) 105 = .ok (.invokevirtual 134, 3) := by decide +kernel
theorem dX10_shot_108 : decode (mC M_X10_shot) 108 = .ok (.ifCond .eq 51, 3) := by decide +kernel
theorem dX10_shot_111 : decode (mC M_X10_shot) 111 = .ok (.iconst 0, 1) := by decide +kernel
theorem dX10_shot_112 : decode (mC M_X10_shot) 112 = .ok (.istore 5, 2) := by decide +kernel
theorem dX10_shot_114 : decode (mC M_X10_shot) 114 = .ok (.iload 5, 2) := by decide +kernel
theorem dX10_shot_116 : decode (mC M_X10_shot) 116 = .ok (.bipush 8, 2) := by decide +kernel
theorem dX10_shot_118 : decode (mC M_X10_shot) 118 = .ok (.if_icmp .ge 35, 3) := by decide +kernel
theorem dX10_shot_121 : decode (mC M_X10_shot) 121 = .ok (.aload_n 0, 1) := by decide +kernel
theorem dX10_shot_122 : decode (mC M_X10_shot) 122 = .ok (.getfield 63, 3) := by decide +kernel
theorem dX10_shot_125 : decode (mC M_X10_shot) 125 = .ok (.iload 5, 2) := by decide +kernel
theorem dX10_shot_127 : decode (mC M_X10_shot) 127 = .ok (.iaload, 1) := by decide +kernel
theorem dX10_shot_128 : decode (mC M_X10_shot) 128 = .ok (.ifCond .lt 19, 3) := by decide +kernel
theorem dX10_shot_131 : decode (mC M_X10_shot) 131 = .ok (.aload_n 0, 1) := by decide +kernel
theorem dX10_shot_132 : decode (mC M_X10_shot) 132 = .ok (.getfield 69, 3) := by decide +kernel
theorem dX10_shot_135 : decode (mC M_X10_shot) 135 = .ok (.iload 5, 2) := by decide +kernel
theorem dX10_shot_137 : decode (mC M_X10_shot) 137 = .ok (.iaload, 1) := by decide +kernel
theorem dX10_shot_138 : decode (mC M_X10_shot) 138 = .ok (.ifCond .le 9, 3) := by decide +kernel
theorem dX10_shot_141 : decode (mC M_X10_shot) 141 = .ok (.aload_n 0, 1) := by decide +kernel
theorem dX10_shot_142 : decode (mC M_X10_shot) 142 = .ok (.iload 5, 2) := by decide +kernel
theorem dX10_shot_144 : decode (mC M_X10_shot) 144 = .ok (.invokevirtual 138, 3) := by decide +kernel
theorem dX10_shot_147 : decode (mC M_X10_shot) 147 = .ok (.iinc 5 1, 3) := by decide +kernel
theorem dX10_shot_150 : decode (mC M_X10_shot) 150 = .ok (.goto (-36), 3) := by decide +kernel
theorem dX10_shot_153 : decode (mC M_X10_shot) 153 = .ok (.iinc 4 1, 3) := by decide +kernel
theorem dX10_shot_156 : decode (mC M_X10_shot) 156 = .ok (.goto (-60), 3) := by decide +kernel
theorem dX10_shot_159 : decode (mC M_X10_shot) 159 = .ok (.return_, 1) := by decide +kernel
theorem dX10_lowest_0 : decode (mC M_X10_lowest) 0 = .ok (.iconst (-1), 1) := by decide +kernel
theorem dX10_lowest_1 : decode (mC M_X10_lowest) 1 = .ok (.istore_n 2, 1) := by decide +kernel
theorem dX10_lowest_2 : decode (mC M_X10_lowest) 2 = .ok (.bipush 7, 2) := by decide +kernel
theorem dX10_lowest_4 : decode (mC M_X10_lowest) 4 = .ok (.istore_n 3, 1) := by decide +kernel
theorem dX10_lowest_5 : decode (mC M_X10_lowest) 5 = .ok (.iload_n 3, 1) := by decide +kernel
theorem dX10_lowest_6 : decode (mC M_X10_lowest) 6 = .ok (.ifCond .le 29, 3) := by decide +kernel
theorem dX10_lowest_9 : decode (mC M_X10_lowest) 9 = .ok (.aload_n 0, 1) := by decide +kernel
theorem dX10_lowest_10 : decode (mC M_X10_lowest) 10 = .ok (.getfield 60, 3) := by decide +kernel
theorem dX10_lowest_13 : decode (mC M_X10_lowest) 13 = .ok (.bipush 8, 2) := by decide +kernel
theorem dX10_lowest_15 : decode (mC M_X10_lowest) 15 = .ok (.iload_n 1, 1) := by decide +kernel
theorem dX10_lowest_16 : decode (mC M_X10_lowest) 16 = .ok (.imul, 1) := by decide +kernel
theorem dX10_lowest_17 : decode (mC M_X10_lowest) 17 = .ok (.iload_n 3, 1) := by decide +kernel
theorem dX10_lowest_18 : decode (mC M_X10_lowest) 18 = .ok (.iadd, 1) := by decide +kernel
theorem dX10_lowest_19 : decode (mC M_X10_lowest) 19 = .ok (.iaload, 1) := by decide +kernel
theorem dX10_lowest_20 : decode (mC M_X10_lowest) 20 = .ok (.ifCond .lt 7, 3) := by decide +kernel
theorem dX10_lowest_23 : decode (mC M_X10_lowest) 23 = .ok (.iload_n 3, 1) := by decide +kernel
theorem dX10_lowest_24 : decode (mC M_X10_lowest) 24 = .ok (.goto 4, 3) := by decide +kernel
theorem dX10_lowest_27 : decode (mC M_X10_lowest) 27 = .ok (.iload_n 2, 1) := by decide +kernel
theorem dX10_lowest_28 : decode (mC M_X10_lowest) 28 = .ok (.istore_n 2, 1) := by decide +kernel
theorem dX10_lowest_29 : decode (mC M_X10_lowest) 29 = .ok (.iinc 3 (-1), 3) := by decide +kernel
theorem dX10_lowest_32 : decode (mC M_X10_lowest) 32 = .ok (.goto (-27), 3) := by decide +kernel
theorem dX10_lowest_35 : decode (mC M_X10_lowest) 35 = .ok (.iload_n 2, 1) := by decide +kernel
theorem dX10_lowest_36 : decode (mC M_X10_lowest) 36 = .ok (.ireturn, 1) := by decide +kernel
theorem dX10_comesBack_0 : decode (mC M_X10_comesBack) 0 = .ok (.iload_n 2, 1) := by decide +kernel
theorem dX10_comesBack_1 : decode (mC M_X10_comesBack) 1 = .ok (.invokestatic 110, 3) := by decide +kernel
theorem dX10_comesBack_4 : decode (mC M_X10_comesBack) 4 = .ok (.istore_n 3, 1) := by decide +kernel
theorem dX10_comesBack_5 : decode (mC M_X10_comesBack) 5 = .ok (.iconst 0, 1) := by decide +kernel
theorem dX10_comesBack_6 : decode (mC M_X10_comesBack) 6 = .ok (.istore 4, 2) := by decide +kernel
theorem dX10_comesBack_8 : decode (mC M_X10_comesBack) 8 = .ok (.aload_n 0, 1) := by decide +kernel
theorem dX10_comesBack_9 : decode (mC M_X10_comesBack) 9 = .ok (.iload_n 3, 1) := by decide +kernel
theorem dX10_comesBack_10 : decode (mC M_X10_comesBack) 10 = .ok (.invokevirtual 119, 3) := by decide +kernel
theorem dX10_comesBack_13 : decode (mC M_X10_comesBack) 13 = .ok (.ifCond .lt 33, 3) := by decide +kernel
theorem dX10_comesBack_16 : decode (mC M_X10_comesBack) 16 = .ok (.iload 4, 2) := by decide +kernel
theorem dX10_comesBack_18 : decode (mC M_X10_comesBack) 18 = .ok (.invokestatic 128, 3) := by decide +kernel
theorem dX10_comesBack_21 : decode (mC M_X10_comesBack) 21 = .ok (.ifCond .ne 12, 3) := by decide +kernel
theorem dX10_comesBack_24 : decode (mC M_X10_comesBack) 24 = .ok (.aload_n 0, 1) := by decide +kernel
theorem dX10_comesBack_25 : decode (mC M_X10_comesBack) 25 = .ok (.iload 4, 2) := by decide +kernel
theorem dX10_comesBack_27 : decode (mC M_X10_comesBack) 27 = .ok (.invokevirtual 119, 3) := by decide +kernel
theorem dX10_comesBack_30 : decode (mC M_X10_comesBack) 30 = .ok (.ifCond .lt 7, 3) := by decide +kernel
theorem dX10_comesBack_33 : decode (mC M_X10_comesBack) 33 = .ok (.iload_n 3, 1) := by decide +kernel
theorem dX10_comesBack_34 : decode (mC M_X10_comesBack) 34 = .ok (.goto 5, 3) := by decide +kernel
theorem dX10_comesBack_37 : decode (mC M_X10_comesBack) 37 = .ok (.iload 4, 2) := by decide +kernel
theorem dX10_comesBack_39 : decode (mC M_X10_comesBack) 39 = .ok (.istore_n 3, 1) := by decide +kernel
theorem dX10_comesBack_40 : decode (mC M_X10_comesBack) 40 = .ok (.iinc 4 1, 3) := by decide +kernel
theorem dX10_comesBack_43 : decode (mC M_X10_comesBack) 43 = .ok (.goto (-35), 3) := by decide +kernel
theorem dX10_comesBack_46 : decode (mC M_X10_comesBack) 46 = .ok (.aload_n 0, 1) := by decide +kernel
theorem dX10_comesBack_47 : decode (mC M_X10_comesBack) 47 = .ok (.getfield 63, 3) := by decide +kernel
theorem dX10_comesBack_50 : decode (mC M_X10_comesBack) 50 = .ok (.iload_n 2, 1) := by decide +kernel
theorem dX10_comesBack_51 : decode (mC M_X10_comesBack) 51 = .ok (.iload_n 3, 1) := by decide +kernel
theorem dX10_comesBack_52 : decode (mC M_X10_comesBack) 52 = .ok (.iastore, 1) := by decide +kernel
theorem dX10_comesBack_53 : decode (mC M_X10_comesBack) 53 = .ok (.aload_n 0, 1) := by decide +kernel
theorem dX10_comesBack_54 : decode (mC M_X10_comesBack) 54 = .ok (.getfield 60, 3) := by decide +kernel
theorem dX10_comesBack_57 : decode (mC M_X10_comesBack) 57 = .ok (.bipush 8, 2) := by decide +kernel
theorem dX10_comesBack_59 : decode (mC M_X10_comesBack) 59 = .ok (.iload_n 1, 1) := by decide +kernel
theorem dX10_comesBack_60 : decode (mC M_X10_comesBack) 60 = .ok (.imul, 1) := by decide +kernel
theorem dX10_comesBack_61 : decode (mC M_X10_comesBack) 61 = .ok (.iload_n 2, 1) := by decide +kernel
theorem dX10_comesBack_62 : decode (mC M_X10_comesBack) 62 = .ok (.iadd, 1) := by decide +kernel
theorem dX10_comesBack_63 : decode (mC M_X10_comesBack) 63 = .ok (.iload_n 3, 1) := by decide +kernel
theorem dX10_comesBack_64 : decode (mC M_X10_comesBack) 64 = .ok (.iastore, 1) := by decide +kernel
theorem dX10_comesBack_65 : decode (mC M_X10_comesBack) 65 = .ok (.return_, 1) := by decide +kernel
theorem dX10_seen_0 : decode (mC M_X10_seen) 0 = .ok (.aload_n 0, 1) := by decide +kernel
theorem dX10_seen_1 : decode (mC M_X10_seen) 1 = .ok (.getfield 63, 3) := by decide +kernel
theorem dX10_seen_4 : decode (mC M_X10_seen) 4 = .ok (.iconst 0, 1) := by decide +kernel
theorem dX10_seen_5 : decode (mC M_X10_seen) 5 = .ok (.iaload, 1) := by decide +kernel
theorem dX10_seen_6 : decode (mC M_X10_seen) 6 = .ok (.bipush 16, 2) := by decide +kernel
theorem dX10_seen_8 : decode (mC M_X10_seen) 8 = .ok (.irem, 1) := by decide +kernel
theorem dX10_seen_9 : decode (mC M_X10_seen) 9 = .ok (.iload_n 1, 1) := by decide +kernel
theorem dX10_seen_10 : decode (mC M_X10_seen) 10 = .ok (.invokestatic 113, 3) := by decide +kernel
theorem dX10_seen_13 : decode (mC M_X10_seen) 13 = .ok (.iadd, 1) := by decide +kernel
theorem dX10_seen_14 : decode (mC M_X10_seen) 14 = .ok (.istore_n 2, 1) := by decide +kernel
theorem dX10_seen_15 : decode (mC M_X10_seen) 15 = .ok (.aload_n 0, 1) := by decide +kernel
theorem dX10_seen_16 : decode (mC M_X10_seen) 16 = .ok (.getfield 63, 3) := by decide +kernel
theorem dX10_seen_19 : decode (mC M_X10_seen) 19 = .ok (.iconst 0, 1) := by decide +kernel
theorem dX10_seen_20 : decode (mC M_X10_seen) 20 = .ok (.iaload, 1) := by decide +kernel
theorem dX10_seen_21 : decode (mC M_X10_seen) 21 = .ok (.bipush 16, 2) := by decide +kernel
theorem dX10_seen_23 : decode (mC M_X10_seen) 23 = .ok (.idiv, 1) := by decide +kernel
theorem dX10_seen_24 : decode (mC M_X10_seen) 24 = .ok (.iload_n 1, 1) := by decide +kernel
theorem dX10_seen_25 : decode (mC M_X10_seen) 25 = .ok (.invokestatic 116, 3) := by decide +kernel
theorem dX10_seen_28 : decode (mC M_X10_seen) 28 = .ok (.iadd, 1) := by decide +kernel
theorem dX10_seen_29 : decode (mC M_X10_seen) 29 = .ok (.istore_n 3, 1) := by decide +kernel
theorem dX10_seen_30 : decode (mC M_X10_seen) 30 = .ok (.iconst (-1), 1) := by decide +kernel
theorem dX10_seen_31 : decode (mC M_X10_seen) 31 = .ok (.istore 4, 2) := by decide +kernel
theorem dX10_seen_33 : decode (mC M_X10_seen) 33 = .ok (.iload 4, 2) := by decide +kernel
theorem dX10_seen_35 : decode (mC M_X10_seen) 35 = .ok (.ifCond .ge 52, 3) := by decide +kernel
theorem dX10_seen_38 : decode (mC M_X10_seen) 38 = .ok (.iload_n 2, 1) := by decide +kernel
theorem dX10_seen_39 : decode (mC M_X10_seen) 39 = .ok (.iconst 0, 1) := by decide +kernel
theorem dX10_seen_40 : decode (mC M_X10_seen) 40 = .ok (.bipush 15, 2) := by decide +kernel
theorem dX10_seen_42 : decode (mC M_X10_seen) 42 = .ok (.invokestatic 75, 3) := by decide +kernel
theorem dX10_seen_45 : decode (mC M_X10_seen) 45 = .ok (.ifCond .eq 42, 3) := by decide +kernel
theorem dX10_seen_48 : decode (mC M_X10_seen) 48 = .ok (.iload_n 3, 1) := by decide +kernel
theorem dX10_seen_49 : decode (mC M_X10_seen) 49 = .ok (.iconst 0, 1) := by decide +kernel
theorem dX10_seen_50 : decode (mC M_X10_seen) 50 = .ok (.bipush 7, 2) := by decide +kernel
theorem dX10_seen_52 : decode (mC M_X10_seen) 52 = .ok (.invokestatic 75, 3) := by decide +kernel
theorem dX10_seen_55 : decode (mC M_X10_seen) 55 = .ok (.ifCond .eq 32, 3) := by decide +kernel
theorem dX10_seen_58 : decode (mC M_X10_seen) 58 = .ok (.aload_n 0, 1) := by decide +kernel
theorem dX10_seen_59 : decode (mC M_X10_seen) 59 = .ok (.bipush 16, 2) := by decide +kernel
theorem dX10_seen_61 : decode (mC M_X10_seen) 61 = .ok (.iload_n 3, 1) := by decide +kernel
theorem dX10_seen_62 : decode (mC M_X10_seen) 62 = .ok (.imul, 1) := by decide +kernel
theorem dX10_seen_63 : decode (mC M_X10_seen) 63 = .ok (.iload_n 2, 1) := by decide +kernel
theorem dX10_seen_64 : decode (mC M_X10_seen) 64 = .ok (.iadd, 1) := by decide +kernel
theorem dX10_seen_65 : decode (mC M_X10_seen) 65 = .ok (.invokevirtual 119, 3) := by decide +kernel
theorem dX10_seen_68 : decode (mC M_X10_seen) 68 = .ok (.istore 4, 2) := by decide +kernel
theorem dX10_seen_70 : decode (mC M_X10_seen) 70 = .ok (.iload_n 2, 1) := by decide +kernel
theorem dX10_seen_71 : decode (mC M_X10_seen) 71 = .ok (.iload_n 1, 1) := by decide +kernel
theorem dX10_seen_72 : decode (mC M_X10_seen) 72 = .ok (.invokestatic 113, 3) := by decide +kernel
theorem dX10_seen_75 : decode (mC M_X10_seen) 75 = .ok (.iadd, 1) := by decide +kernel
theorem dX10_seen_76 : decode (mC M_X10_seen) 76 = .ok (.istore_n 2, 1) := by decide +kernel
theorem dX10_seen_77 : decode (mC M_X10_seen) 77 = .ok (.iload_n 3, 1) := by decide +kernel
theorem dX10_seen_78 : decode (mC M_X10_seen) 78 = .ok (.iload_n 1, 1) := by decide +kernel
theorem dX10_seen_79 : decode (mC M_X10_seen) 79 = .ok (.invokestatic 116, 3) := by decide +kernel
theorem dX10_seen_82 : decode (mC M_X10_seen) 82 = .ok (.iadd, 1) := by decide +kernel
theorem dX10_seen_83 : decode (mC M_X10_seen) 83 = .ok (.istore_n 3, 1) := by decide +kernel
theorem dX10_seen_84 : decode (mC M_X10_seen) 84 = .ok (.goto (-51), 3) := by decide +kernel
theorem dX10_seen_87 : decode (mC M_X10_seen) 87 = .ok (.iload 4, 2) := by decide +kernel
theorem dX10_seen_89 : decode (mC M_X10_seen) 89 = .ok (.ireturn, 1) := by decide +kernel
theorem dX10_isHidden_0 : decode (mC M_X10_isHidden) 0 = .ok (.iconst 1, 1) := by decide +kernel
theorem dX10_isHidden_1 : decode (mC M_X10_isHidden) 1 = .ok (.istore_n 2, 1) := by decide +kernel
theorem dX10_isHidden_2 : decode (mC M_X10_isHidden) 2 = .ok (.iconst 0, 1) := by decide +kernel
theorem dX10_isHidden_3 : decode (mC M_X10_isHidden) 3 = .ok (.istore_n 3, 1) := by decide +kernel
theorem dX10_isHidden_4 : decode (mC M_X10_isHidden) 4 = .ok (.iload_n 3, 1) := by decide +kernel
theorem dX10_isHidden_5 : decode (mC M_X10_isHidden) 5 = .ok (.bipush 8, 2) := by decide +kernel
theorem dX10_isHidden_7 : decode (mC M_X10_isHidden) 7 = .ok (.if_icmp .ge 26, 3) := by decide +kernel
theorem dX10_isHidden_10 : decode (mC M_X10_isHidden) 10 = .ok (.iload_n 2, 1) := by decide +kernel
theorem dX10_isHidden_11 : decode (mC M_X10_isHidden) 11 = .ok (.aload_n 0, 1) := by decide +kernel
theorem dX10_isHidden_12 : decode (mC M_X10_isHidden) 12 = .ok (.iload_n 3, 1) := by decide +kernel
theorem dX10_isHidden_13 : decode (mC M_X10_isHidden) 13 = .ok (.invokevirtual 141, 3) := by decide +kernel
theorem dX10_isHidden_16 : decode (mC M_X10_isHidden) 16 = .ok (.iload_n 1, 1) := by decide +kernel
theorem dX10_isHidden_17 : decode (mC M_X10_isHidden) 17 = .ok (.if_icmp .eq 7, 3) := by decide +kernel
theorem dX10_isHidden_20 : decode (mC M_X10_isHidden) 20 = .ok (.iconst 1, 1) := by decide +kernel
theorem dX10_isHidden_21 : decode (mC M_X10_isHidden) 21 = .ok (.goto 4, 3) := by decide +kernel
theorem dX10_isHidden_24 : decode (mC M_X10_isHidden) 24 = .ok (.iconst 0, 1) := by decide +kernel
theorem dX10_isHidden_25 : decode (mC M_X10_isHidden) 25 = .ok (.iand, 1) := by decide +kernel
theorem dX10_isHidden_26 : decode (mC M_X10_isHidden) 26 = .ok (.istore_n 2, 1) := by decide +kernel
theorem dX10_isHidden_27 : decode (mC M_X10_isHidden) 27 = .ok (.iinc 3 1, 3) := by decide +kernel
theorem dX10_isHidden_30 : decode (mC M_X10_isHidden) 30 = .ok (.goto (-26), 3) := by decide +kernel
theorem dX10_isHidden_33 : decode (mC M_X10_isHidden) 33 = .ok (.iload_n 2, 1) := by decide +kernel
theorem dX10_isHidden_34 : decode (mC M_X10_isHidden) 34 = .ok (.ireturn, 1) := by decide +kernel
theorem dX10_cueWith_0 : decode (mC M_X10_cueWith) 0 = .ok (.iconst (-1), 1) := by decide +kernel
theorem dX10_cueWith_1 : decode (mC M_X10_cueWith) 1 = .ok (.istore_n 2, 1) := by decide +kernel
theorem dX10_cueWith_2 : decode (mC M_X10_cueWith) 2 = .ok (.iconst 0, 1) := by decide +kernel
theorem dX10_cueWith_3 : decode (mC M_X10_cueWith) 3 = .ok (.istore_n 3, 1) := by decide +kernel
theorem dX10_cueWith_4 : decode (mC M_X10_cueWith) 4 = .ok (.iload_n 3, 1) := by decide +kernel
theorem dX10_cueWith_5 : decode (mC M_X10_cueWith) 5 = .ok (.bipush 6, 2) := by decide +kernel
theorem dX10_cueWith_7 : decode (mC M_X10_cueWith) 7 = .ok (.if_icmp .ge 27, 3) := by decide +kernel
theorem dX10_cueWith_10 : decode (mC M_X10_cueWith) 10 = .ok (.aload_n 0, 1) := by decide +kernel
theorem dX10_cueWith_11 : decode (mC M_X10_cueWith) 11 = .ok (.getfield 30, 3) := by decide +kernel
theorem dX10_cueWith_14 : decode (mC M_X10_cueWith) 14 = .ok (.iload_n 3, 1) := by decide +kernel
theorem dX10_cueWith_15 : decode (mC M_X10_cueWith) 15 = .ok (.iaload, 1) := by decide +kernel
theorem dX10_cueWith_16 : decode (mC M_X10_cueWith) 16 = .ok (.iload_n 1, 1) := by decide +kernel
theorem dX10_cueWith_17 : decode (mC M_X10_cueWith) 17 = .ok (.iconst 1, 1) := by decide +kernel
theorem dX10_cueWith_18 : decode (mC M_X10_cueWith) 18 = .ok (.iadd, 1) := by decide +kernel
theorem dX10_cueWith_19 : decode (mC M_X10_cueWith) 19 = .ok (.if_icmp .ne 7, 3) := by decide +kernel
theorem dX10_cueWith_22 : decode (mC M_X10_cueWith) 22 = .ok (.iload_n 3, 1) := by decide +kernel
theorem dX10_cueWith_23 : decode (mC M_X10_cueWith) 23 = .ok (.goto 4, 3) := by decide +kernel
theorem dX10_cueWith_26 : decode (mC M_X10_cueWith) 26 = .ok (.iload_n 2, 1) := by decide +kernel
theorem dX10_cueWith_27 : decode (mC M_X10_cueWith) 27 = .ok (.istore_n 2, 1) := by decide +kernel
theorem dX10_cueWith_28 : decode (mC M_X10_cueWith) 28 = .ok (.iinc 3 1, 3) := by decide +kernel
theorem dX10_cueWith_31 : decode (mC M_X10_cueWith) 31 = .ok (.goto (-27), 3) := by decide +kernel
theorem dX10_cueWith_34 : decode (mC M_X10_cueWith) 34 = .ok (.iload_n 2, 1) := by decide +kernel
theorem dX10_cueWith_35 : decode (mC M_X10_cueWith) 35 = .ok (.ireturn, 1) := by decide +kernel
theorem dX10_forceOf_0 : decode (mC M_X10_forceOf) 0 = .ok (.aload_n 0, 1) := by decide +kernel
theorem dX10_forceOf_1 : decode (mC M_X10_forceOf) 1 = .ok (.iload_n 1, 1) := by decide +kernel
theorem dX10_forceOf_2 : decode (mC M_X10_forceOf) 2 = .ok (.invokevirtual 144, 3) := by decide +kernel
theorem dX10_forceOf_5 : decode (mC M_X10_forceOf) 5 = .ok (.istore_n 3, 1) := by decide +kernel
theorem dX10_forceOf_6 : decode (mC M_X10_forceOf) 6 = .ok (.iload_n 3, 1) := by decide +kernel
theorem dX10_forceOf_7 : decode (mC M_X10_forceOf) 7 = .ok (.ifCond .ge 11, 3) := by decide +kernel
theorem dX10_forceOf_10 : decode (mC M_X10_forceOf) 10 = .ok (.iconst 3, 1) := by decide +kernel
theorem dX10_forceOf_11 : decode (mC M_X10_forceOf) 11 = .ok (.iload_n 2, 1) := by decide +kernel
theorem dX10_forceOf_12 : decode (mC M_X10_forceOf) 12 = .ok (.imul, 1) := by decide +kernel
theorem dX10_forceOf_13 : decode (mC M_X10_forceOf) 13 = .ok (.iconst 4, 1) := by decide +kernel
theorem dX10_forceOf_14 : decode (mC M_X10_forceOf) 14 = .ok (.idiv, 1) := by decide +kernel
theorem dX10_forceOf_15 : decode (mC M_X10_forceOf) 15 = .ok (.goto 19, 3) := by decide +kernel
theorem dX10_forceOf_18 : decode (mC M_X10_forceOf) 18 = .ok (.iload_n 2, 1) := by decide +kernel
theorem dX10_forceOf_19 : decode (mC M_X10_forceOf) 19 = .ok (.sipush 200, 3) := by decide +kernel
theorem dX10_forceOf_22 : decode (mC M_X10_forceOf) 22 = .ok (.aload_n 0, 1) := by decide +kernel
theorem dX10_forceOf_23 : decode (mC M_X10_forceOf) 23 = .ok (.getfield 33, 3) := by decide +kernel
theorem dX10_forceOf_26 : decode (mC M_X10_forceOf) 26 = .ok (.iload_n 3, 1) := by decide +kernel
theorem dX10_forceOf_27 : decode (mC M_X10_forceOf) 27 = .ok (.iaload, 1) := by decide +kernel
theorem dX10_forceOf_28 : decode (mC M_X10_forceOf) 28 = .ok (.isub, 1) := by decide +kernel
theorem dX10_forceOf_29 : decode (mC M_X10_forceOf) 29 = .ok (.imul, 1) := by decide +kernel
theorem dX10_forceOf_30 : decode (mC M_X10_forceOf) 30 = .ok (.sipush 200, 3) := by decide +kernel
theorem dX10_forceOf_33 : decode (mC M_X10_forceOf) 33 = .ok (.idiv, 1) := by decide +kernel
theorem dX10_forceOf_34 : decode (mC M_X10_forceOf) 34 = .ok (.istore 4, 2) := by decide +kernel
theorem dX10_forceOf_36 : decode (mC M_X10_forceOf) 36 = .ok (.iload 4, 2) := by decide +kernel
theorem dX10_forceOf_38 : decode (mC M_X10_forceOf) 38 = .ok (.iconst 1, 1) := by decide +kernel
theorem dX10_forceOf_39 : decode (mC M_X10_forceOf) 39 = .ok (.if_icmp .ge 7, 3) := by decide +kernel
theorem dX10_forceOf_42 : decode (mC M_X10_forceOf) 42 = .ok (.iconst 1, 1) := by decide +kernel
theorem dX10_forceOf_43 : decode (mC M_X10_forceOf) 43 = .ok (.goto 5, 3) := by decide +kernel
theorem dX10_forceOf_46 : decode (mC M_X10_forceOf) 46 = .ok (.iload 4, 2) := by decide +kernel
theorem dX10_forceOf_48 : decode (mC M_X10_forceOf) 48 = .ok (.ireturn, 1) := by decide +kernel
theorem dX10_fouls_0 : decode (mC M_X10_fouls) 0 = .ok (.iconst 0, 1) := by decide +kernel
theorem dX10_fouls_1 : decode (mC M_X10_fouls) 1 = .ok (.istore_n 3, 1) := by decide +kernel
theorem dX10_fouls_2 : decode (mC M_X10_fouls) 2 = .ok (.iload_n 3, 1) := by decide +kernel
theorem dX10_fouls_3 : decode (mC M_X10_fouls) 3 = .ok (.bipush 8, 2) := by decide +kernel
theorem dX10_fouls_5 : decode (mC M_X10_fouls) 5 = .ok (.if_icmp .ge 27, 3) := by decide +kernel
theorem dX10_fouls_8 : decode (mC M_X10_fouls) 8 = .ok (.aload_n 0, 1) := by decide +kernel
theorem dX10_fouls_9 : decode (mC M_X10_fouls) 9 = .ok (.getfield 131, 3) := by decide +kernel
theorem dX10_fouls_12 : decode (mC M_X10_fouls) 12 = .ok (.iload_n 3, 1) := by decide +kernel
theorem dX10_fouls_13 : decode (mC M_X10_fouls) 13 = .ok (.ishr, 1) := by decide +kernel
theorem dX10_fouls_14 : decode (mC M_X10_fouls) 14 = .ok (.iconst 1, 1) := by decide +kernel
theorem dX10_fouls_15 : decode (mC M_X10_fouls) 15 = .ok (.iand, 1) := by decide +kernel
theorem dX10_fouls_16 : decode (mC M_X10_fouls) 16 = .ok (.iconst 1, 1) := by decide +kernel
theorem dX10_fouls_17 : decode (mC M_X10_fouls) 17 = .ok (.if_icmp .ne 9, 3) := by decide +kernel
theorem dX10_fouls_20 : decode (mC M_X10_fouls) 20 = .ok (.aload_n 0, 1) := by decide +kernel
theorem dX10_fouls_21 : decode (mC M_X10_fouls) 21 = .ok (.iload_n 1, 1) := by decide +kernel
theorem dX10_fouls_22 : decode (mC M_X10_fouls) 22 = .ok (.iload_n 3, 1) := by decide +kernel
theorem dX10_fouls_23 : decode (mC M_X10_fouls) 23 = .ok (.invokevirtual 147, 3) := by decide +kernel
theorem dX10_fouls_26 : decode (mC M_X10_fouls) 26 = .ok (.iinc 3 1, 3) := by decide +kernel
theorem dX10_fouls_29 : decode (mC M_X10_fouls) 29 = .ok (.goto (-27), 3) := by decide +kernel
theorem dX10_fouls_32 : decode (mC M_X10_fouls) 32 = .ok (.iload_n 2, 1) := by decide +kernel
theorem dX10_fouls_33 : decode (mC M_X10_fouls) 33 = .ok (.iconst 4, 1) := by decide +kernel
theorem dX10_fouls_34 : decode (mC M_X10_fouls) 34 = .ok (.if_icmp .ge 7, 3) := by decide +kernel
theorem dX10_fouls_37 : decode (mC M_X10_fouls) 37 = .ok (.iconst 4, 1) := by decide +kernel
theorem dX10_fouls_38 : decode (mC M_X10_fouls) 38 = .ok (.goto 4, 3) := by decide +kernel
theorem dX10_fouls_41 : decode (mC M_X10_fouls) 41 = .ok (.iload_n 2, 1) := by decide +kernel
theorem dX10_fouls_42 : decode (mC M_X10_fouls) 42 = .ok (.istore_n 3, 1) := by decide +kernel
theorem dX10_fouls_43 : decode (mC M_X10_fouls) 43 = .ok (.aload_n 0, 1) := by decide +kernel
theorem dX10_fouls_44 : decode (mC M_X10_fouls) 44 = .ok (.getfield 48, 3) := by decide +kernel
theorem dX10_fouls_47 : decode (mC M_X10_fouls) 47 = .ok (.iload_n 1, 1) := by decide +kernel
theorem dX10_fouls_48 : decode (mC M_X10_fouls) 48 = .ok (.iconst 1, 1) := by decide +kernel
theorem dX10_fouls_49 : decode (mC M_X10_fouls) 49 = .ok (.aload_n 0, 1) := by decide +kernel
theorem dX10_fouls_50 : decode (mC M_X10_fouls) 50 = .ok (.getfield 48, 3) := by decide +kernel
theorem dX10_fouls_53 : decode (mC M_X10_fouls) 53 = .ok (.iload_n 1, 1) := by decide +kernel
theorem dX10_fouls_54 : decode (mC M_X10_fouls) 54 = .ok (.iaload, 1) := by decide +kernel
theorem dX10_fouls_55 : decode (mC M_X10_fouls) 55 = .ok (.isub, 1) := by decide +kernel
theorem dX10_fouls_56 : decode (mC M_X10_fouls) 56 = .ok (.iastore, 1) := by decide +kernel
theorem dX10_fouls_57 : decode (mC M_X10_fouls) 57 = .ok (.aload_n 0, 1) := by decide +kernel
theorem dX10_fouls_58 : decode (mC M_X10_fouls) 58 = .ok (.getfield 51, 3) := by decide +kernel
theorem dX10_fouls_61 : decode (mC M_X10_fouls) 61 = .ok (.iconst 2, 1) := by decide +kernel
theorem dX10_fouls_62 : decode (mC M_X10_fouls) 62 = .ok (.iload_n 1, 1) := by decide +kernel
theorem dX10_fouls_63 : decode (mC M_X10_fouls) 63 = .ok (.imul, 1) := by decide +kernel
theorem dX10_fouls_64 : decode (mC M_X10_fouls) 64 = .ok (.aload_n 0, 1) := by decide +kernel
theorem dX10_fouls_65 : decode (mC M_X10_fouls) 65 = .ok (.getfield 48, 3) := by decide +kernel
theorem dX10_fouls_68 : decode (mC M_X10_fouls) 68 = .ok (.iload_n 1, 1) := by decide +kernel
theorem dX10_fouls_69 : decode (mC M_X10_fouls) 69 = .ok (.iaload, 1) := by decide +kernel
theorem dX10_fouls_70 : decode (mC M_X10_fouls) 70 = .ok (.iadd, 1) := by decide +kernel
theorem dX10_fouls_71 : decode (mC M_X10_fouls) 71 = .ok (.dup2, 1) := by decide +kernel
theorem dX10_fouls_72 : decode (mC M_X10_fouls) 72 = .ok (.iaload, 1) := by decide +kernel
theorem dX10_fouls_73 : decode (mC M_X10_fouls) 73 = .ok (.iload_n 3, 1) := by decide +kernel
theorem dX10_fouls_74 : decode (mC M_X10_fouls) 74 = .ok (.iadd, 1) := by decide +kernel
theorem dX10_fouls_75 : decode (mC M_X10_fouls) 75 = .ok (.iastore, 1) := by decide +kernel
theorem dX10_fouls_76 : decode (mC M_X10_fouls) 76 = .ok (.aload_n 0, 1) := by decide +kernel
theorem dX10_fouls_77 : decode (mC M_X10_fouls) 77 = .ok (.getfield 54, 3) := by decide +kernel
theorem dX10_fouls_80 : decode (mC M_X10_fouls) 80 = .ok (.iload_n 1, 1) := by decide +kernel
theorem dX10_fouls_81 : decode (mC M_X10_fouls) 81 = .ok (.aload_n 0, 1) := by decide +kernel
theorem dX10_fouls_82 : decode (mC M_X10_fouls) 82 = .ok (.aload_n 0, 1) := by decide +kernel
theorem dX10_fouls_83 : decode (mC M_X10_fouls) 83 = .ok (.iload_n 1, 1) := by decide +kernel
theorem dX10_fouls_84 : decode (mC M_X10_fouls) 84 = .ok (.invokevirtual 151, 3) := by decide +kernel
theorem dX10_fouls_87 : decode (mC M_X10_fouls) 87 = .ok (.invokevirtual 154, 3) := by decide +kernel
theorem dX10_fouls_90 : decode (mC M_X10_fouls) 90 = .ok (.bastore, 1) := by decide +kernel
theorem dX10_fouls_91 : decode (mC M_X10_fouls) 91 = .ok (.iload_n 3, 1) := by decide +kernel
theorem dX10_fouls_92 : decode (mC M_X10_fouls) 92 = .ok (.ineg, 1) := by decide +kernel
theorem dX10_fouls_93 : decode (mC M_X10_fouls) 93 = .ok (.ireturn, 1) := by decide +kernel
theorem dX10_isOver_0 : decode (mC M_X10_isOver) 0 = .ok (.aload_n 0, 1) := by decide +kernel
theorem dX10_isOver_1 : decode (mC M_X10_isOver) 1 = .ok (.getfield 51, 3) := by decide +kernel
theorem dX10_isOver_4 : decode (mC M_X10_isOver) 4 = .ok (.iconst 2, 1) := by decide +kernel
theorem dX10_isOver_5 : decode (mC M_X10_isOver) 5 = .ok (.iload_n 1, 1) := by decide +kernel
theorem dX10_isOver_6 : decode (mC M_X10_isOver) 6 = .ok (.imul, 1) := by decide +kernel
theorem dX10_isOver_7 : decode (mC M_X10_isOver) 7 = .ok (.iaload, 1) := by decide +kernel
theorem dX10_isOver_8 : decode (mC M_X10_isOver) 8 = .ok (.istore_n 2, 1) := by decide +kernel
theorem dX10_isOver_9 : decode (mC M_X10_isOver) 9 = .ok (.aload_n 0, 1) := by decide +kernel
theorem dX10_isOver_10 : decode (mC M_X10_isOver) 10 = .ok (.getfield 51, 3) := by decide +kernel
theorem dX10_isOver_13 : decode (mC M_X10_isOver) 13 = .ok (.iconst 2, 1) := by decide +kernel
theorem dX10_isOver_14 : decode (mC M_X10_isOver) 14 = .ok (.iload_n 1, 1) := by decide +kernel
theorem dX10_isOver_15 : decode (mC M_X10_isOver) 15 = .ok (.imul, 1) := by decide +kernel
theorem dX10_isOver_16 : decode (mC M_X10_isOver) 16 = .ok (.iconst 1, 1) := by decide +kernel
theorem dX10_isOver_17 : decode (mC M_X10_isOver) 17 = .ok (.iadd, 1) := by decide +kernel
theorem dX10_isOver_18 : decode (mC M_X10_isOver) 18 = .ok (.iaload, 1) := by decide +kernel
theorem dX10_isOver_19 : decode (mC M_X10_isOver) 19 = .ok (.istore_n 3, 1) := by decide +kernel
theorem dX10_isOver_20 : decode (mC M_X10_isOver) 20 = .ok (.iload_n 2, 1) := by decide +kernel
theorem dX10_isOver_21 : decode (mC M_X10_isOver) 21 = .ok (.iload_n 3, 1) := by decide +kernel
theorem dX10_isOver_22 : decode (mC M_X10_isOver) 22 = .ok (.if_icmp .le 7, 3) := by decide +kernel
theorem dX10_isOver_25 : decode (mC M_X10_isOver) 25 = .ok (.iconst 0, 1) := by decide +kernel
theorem dX10_isOver_26 : decode (mC M_X10_isOver) 26 = .ok (.goto 18, 3) := by decide +kernel
theorem dX10_isOver_29 : decode (mC M_X10_isOver) 29 = .ok (.iload_n 3, 1) := by decide +kernel
theorem dX10_isOver_30 : decode (mC M_X10_isOver) 30 = .ok (.iload_n 2, 1) := by decide +kernel
theorem dX10_isOver_31 : decode (mC M_X10_isOver) 31 = .ok (.if_icmp .le 7, 3) := by decide +kernel
theorem dX10_isOver_34 : decode (mC M_X10_isOver) 34 = .ok (.iconst 1, 1) := by decide +kernel
theorem dX10_isOver_35 : decode (mC M_X10_isOver) 35 = .ok (.goto 9, 3) := by decide +kernel
theorem dX10_isOver_38 : decode (mC M_X10_isOver) 38 = .ok (.aload_n 0, 1) := by decide +kernel
theorem dX10_isOver_39 : decode (mC M_X10_isOver) 39 = .ok (.getfield 48, 3) := by decide +kernel
theorem dX10_isOver_42 : decode (mC M_X10_isOver) 42 = .ok (.iload_n 1, 1) := by decide +kernel
theorem dX10_isOver_43 : decode (mC M_X10_isOver) 43 = .ok (.iaload, 1) := by decide +kernel
theorem dX10_isOver_44 : decode (mC M_X10_isOver) 44 = .ok (.istore 4, 2) := by decide +kernel
theorem dX10_isOver_46 : decode (mC M_X10_isOver) 46 = .ok (.aload_n 0, 1) := by decide +kernel
theorem dX10_isOver_47 : decode (mC M_X10_isOver) 47 = .ok (.getfield 57, 3) := by decide +kernel
theorem dX10_isOver_50 : decode (mC M_X10_isOver) 50 = .ok (.iload_n 1, 1) := by decide +kernel
theorem dX10_isOver_51 : decode (mC M_X10_isOver) 51 = .ok (.aload_n 0, 1) := by decide +kernel
theorem dX10_isOver_52 : decode (mC M_X10_isOver) 52 = .ok (.getfield 39, 3) := by decide +kernel
theorem dX10_isOver_55 : decode (mC M_X10_isOver) 55 = .ok (.iconst 2, 1) := by decide +kernel
theorem dX10_isOver_56 : decode (mC M_X10_isOver) 56 = .ok (.iload_n 1, 1) := by decide +kernel
theorem dX10_isOver_57 : decode (mC M_X10_isOver) 57 = .ok (.imul, 1) := by decide +kernel
theorem dX10_isOver_58 : decode (mC M_X10_isOver) 58 = .ok (.iload 4, 2) := by decide +kernel
theorem dX10_isOver_60 : decode (mC M_X10_isOver) 60 = .ok (.iadd, 1) := by decide +kernel
theorem dX10_isOver_61 : decode (mC M_X10_isOver) 61 = .ok (.iaload, 1) := by decide +kernel
theorem dX10_isOver_62 : decode (mC M_X10_isOver) 62 = .ok (.iastore, 1) := by decide +kernel
theorem dX10_isOver_63 : decode (mC M_X10_isOver) 63 = .ok (.aload_n 0, 1) := by decide +kernel
theorem dX10_isOver_64 : decode (mC M_X10_isOver) 64 = .ok (.getfield 45, 3) := by decide +kernel
theorem dX10_isOver_67 : decode (mC M_X10_isOver) 67 = .ok (.iload_n 1, 1) := by decide +kernel
theorem dX10_isOver_68 : decode (mC M_X10_isOver) 68 = .ok (.iconst 2, 1) := by decide +kernel
theorem dX10_isOver_69 : decode (mC M_X10_isOver) 69 = .ok (.iastore, 1) := by decide +kernel
theorem dX10_isOver_70 : decode (mC M_X10_isOver) 70 = .ok (.iconst 0, 1) := by decide +kernel
theorem dX10_isOver_71 : decode (mC M_X10_isOver) 71 = .ok (.istore 5, 2) := by decide +kernel
theorem dX10_isOver_73 : decode (mC M_X10_isOver) 73 = .ok (.iload 5, 2) := by decide +kernel
theorem dX10_isOver_75 : decode (mC M_X10_isOver) 75 = .ok (.iconst 4, 1) := by decide +kernel
theorem dX10_isOver_76 : decode (mC M_X10_isOver) 76 = .ok (.if_icmp .ge 40, 3) := by decide +kernel
theorem dX10_isOver_79 : decode (mC M_X10_isOver) 79 = .ok (.aload_n 0, 1) := by decide +kernel
theorem dX10_isOver_80 : decode (mC M_X10_isOver) 80 = .ok (.getfield 21, 3) := by decide +kernel
theorem dX10_isOver_83 : decode (mC M_X10_isOver) 83 = .ok (.iload 5, 2) := by decide +kernel
theorem dX10_isOver_85 : decode (mC M_X10_isOver) 85 = .ok (.aload_n 0, 1) := by decide +kernel
theorem dX10_isOver_86 : decode (mC M_X10_isOver) 86 = .ok (.getfield 21, 3) := by decide +kernel
theorem dX10_isOver_89 : decode (mC M_X10_isOver) 89 = .ok (.iload 5, 2) := by decide +kernel
theorem dX10_isOver_91 : decode (mC M_X10_isOver) 91 = .ok (.iaload, 1) := by decide +kernel
theorem dX10_isOver_92 : decode (mC M_X10_isOver) 92 = .ok (.iload_n 1, 1) := by decide +kernel
theorem dX10_isOver_93 : decode (mC M_X10_isOver) 93 = .ok (.iconst 1, 1) := by decide +kernel
theorem dX10_isOver_94 : decode (mC M_X10_isOver) 94 = .ok (.iadd, 1) := by decide +kernel
theorem dX10_isOver_95 : decode (mC M_X10_isOver) 95 = .ok (.if_icmp .ne 7, 3) := by decide +kernel
theorem dX10_isOver_98 : decode (mC M_X10_isOver) 98 = .ok (.iconst 0, 1) := by decide +kernel
theorem dX10_isOver_99 : decode (mC M_X10_isOver) 99 = .ok (.goto 10, 3) := by decide +kernel
theorem dX10_isOver_102 : decode (mC M_X10_isOver) 102 = .ok (.aload_n 0, 1) := by decide +kernel
theorem dX10_isOver_103 : decode (mC M_X10_isOver) 103 = .ok (.getfield 21, 3) := by decide +kernel
theorem dX10_isOver_106 : decode (mC M_X10_isOver) 106 = .ok (.iload 5, 2) := by decide +kernel
theorem dX10_isOver_108 : decode (mC M_X10_isOver) 108 = .ok (.iaload, 1) := by decide +kernel
theorem dX10_isOver_109 : decode (mC M_X10_isOver) 109 = .ok (.iastore, 1) := by decide +kernel
theorem dX10_isOver_110 : decode (mC M_X10_isOver) 110 = .ok (.iinc 5 1, 3) := by decide +kernel
theorem dX10_isOver_113 : decode (mC M_X10_isOver) 113 = .ok (.goto (-40), 3) := by decide +kernel
theorem dX10_isOver_116 : decode (mC M_X10_isOver) 116 = .ok (.return_, 1) := by decide +kernel
theorem dX10_scores_0 : decode (mC M_X10_scores) 0 = .ok (.iconst 0, 1) := by decide +kernel
theorem dX10_scores_1 : decode (mC M_X10_scores) 1 = .ok (.istore_n 2, 1) := by decide +kernel
theorem dX10_scores_2 : decode (mC M_X10_scores) 2 = .ok (.iconst 1, 1) := by decide +kernel
theorem dX10_scores_3 : decode (mC M_X10_scores) 3 = .ok (.istore_n 3, 1) := by decide +kernel
theorem dX10_scores_4 : decode (mC M_X10_scores) 4 = .ok (.iload_n 3, 1) := by decide +kernel
theorem dX10_scores_5 : decode (mC M_X10_scores) 5 = .ok (.bipush 8, 2) := by decide +kernel
theorem dX10_scores_7 : decode (mC M_X10_scores) 7 = .ok (.if_icmp .ge 29, 3) := by decide +kernel
theorem dX10_scores_10 : decode (mC M_X10_scores) 10 = .ok (.iload_n 2, 1) := by decide +kernel
theorem dX10_scores_11 : decode (mC M_X10_scores) 11 = .ok (.aload_n 0, 1) := by decide +kernel
theorem dX10_scores_12 : decode (mC M_X10_scores) 12 = .ok (.getfield 131, 3) := by decide +kernel
theorem dX10_scores_15 : decode (mC M_X10_scores) 15 = .ok (.iload_n 3, 1) := by decide +kernel
theorem dX10_scores_16 : decode (mC M_X10_scores) 16 = .ok (.ishr, 1) := by decide +kernel
theorem dX10_scores_17 : decode (mC M_X10_scores) 17 = .ok (.iconst 1, 1) := by decide +kernel
theorem dX10_scores_18 : decode (mC M_X10_scores) 18 = .ok (.iand, 1) := by decide +kernel
theorem dX10_scores_19 : decode (mC M_X10_scores) 19 = .ok (.iconst 1, 1) := by decide +kernel
theorem dX10_scores_20 : decode (mC M_X10_scores) 20 = .ok (.if_icmp .ne 7, 3) := by decide +kernel
theorem dX10_scores_23 : decode (mC M_X10_scores) 23 = .ok (.iload_n 3, 1) := by decide +kernel
theorem dX10_scores_24 : decode (mC M_X10_scores) 24 = .ok (.goto 4, 3) := by decide +kernel
theorem dX10_scores_27 : decode (mC M_X10_scores) 27 = .ok (.iconst 0, 1) := by decide +kernel
theorem dX10_scores_28 : decode (mC M_X10_scores) 28 = .ok (.iadd, 1) := by decide +kernel
theorem dX10_scores_29 : decode (mC M_X10_scores) 29 = .ok (.istore_n 2, 1) := by decide +kernel
theorem dX10_scores_30 : decode (mC M_X10_scores) 30 = .ok (.iinc 3 1, 3) := by decide +kernel
theorem dX10_scores_33 : decode (mC M_X10_scores) 33 = .ok (.goto (-29), 3) := by decide +kernel
theorem dX10_scores_36 : decode (mC M_X10_scores) 36 = .ok (.aload_n 0, 1) := by decide +kernel
theorem dX10_scores_37 : decode (mC M_X10_scores) 37 = .ok (.getfield 51, 3) := by decide +kernel
theorem dX10_scores_40 : decode (mC M_X10_scores) 40 = .ok (.iconst 2, 1) := by decide +kernel
theorem dX10_scores_41 : decode (mC M_X10_scores) 41 = .ok (.iload_n 1, 1) := by decide +kernel
theorem dX10_scores_42 : decode (mC M_X10_scores) 42 = .ok (.imul, 1) := by decide +kernel
theorem dX10_scores_43 : decode (mC M_X10_scores) 43 = .ok (.aload_n 0, 1) := by decide +kernel
theorem dX10_scores_44 : decode (mC M_X10_scores) 44 = .ok (.getfield 48, 3) := by decide +kernel
theorem dX10_scores_47 : decode (mC M_X10_scores) 47 = .ok (.iload_n 1, 1) := by decide +kernel
theorem dX10_scores_48 : decode (mC M_X10_scores) 48 = .ok (.iaload, 1) := by decide +kernel
theorem dX10_scores_49 : decode (mC M_X10_scores) 49 = .ok (.iadd, 1) := by decide +kernel
theorem dX10_scores_50 : decode (mC M_X10_scores) 50 = .ok (.dup2, 1) := by decide +kernel
theorem dX10_scores_51 : decode (mC M_X10_scores) 51 = .ok (.iaload, 1) := by decide +kernel
theorem dX10_scores_52 : decode (mC M_X10_scores) 52 = .ok (.iload_n 2, 1) := by decide +kernel
theorem dX10_scores_53 : decode (mC M_X10_scores) 53 = .ok (.iadd, 1) := by decide +kernel
theorem dX10_scores_54 : decode (mC M_X10_scores) 54 = .ok (.iastore, 1) := by decide +kernel
theorem dX10_scores_55 : decode (mC M_X10_scores) 55 = .ok (.aload_n 0, 1) := by decide +kernel
theorem dX10_scores_56 : decode (mC M_X10_scores) 56 = .ok (.getfield 54, 3) := by decide +kernel
theorem dX10_scores_59 : decode (mC M_X10_scores) 59 = .ok (.iload_n 1, 1) := by decide +kernel
theorem dX10_scores_60 : decode (mC M_X10_scores) 60 = .ok (.iconst 0, 1) := by decide +kernel
theorem dX10_scores_61 : decode (mC M_X10_scores) 61 = .ok (.bastore, 1) := by decide +kernel
theorem dX10_scores_62 : decode (mC M_X10_scores) 62 = .ok (.aload_n 0, 1) := by decide +kernel
theorem dX10_scores_63 : decode (mC M_X10_scores) 63 = .ok (.iload_n 1, 1) := by decide +kernel
theorem dX10_scores_64 : decode (mC M_X10_scores) 64 = .ok (.invokevirtual 151, 3) := by decide +kernel
theorem dX10_scores_67 : decode (mC M_X10_scores) 67 = .ok (.ifCond .ge 11, 3) := by decide +kernel
theorem dX10_scores_70 : decode (mC M_X10_scores) 70 = .ok (.aload_n 0, 1) := by decide +kernel
theorem dX10_scores_71 : decode (mC M_X10_scores) 71 = .ok (.iload_n 1, 1) := by decide +kernel
theorem dX10_scores_72 : decode (mC M_X10_scores) 72 = .ok (.invokevirtual 157, 3) := by decide +kernel
theorem dX10_scores_75 : decode (mC M_X10_scores) 75 = .ok (.goto 21, 3) := by decide +kernel
theorem dX10_scores_78 : decode (mC M_X10_scores) 78 = .ok (.iload_n 2, 1) := by decide +kernel
theorem dX10_scores_79 : decode (mC M_X10_scores) 79 = .ok (.ifCond .ne 17, 3) := by decide +kernel
theorem dX10_scores_82 : decode (mC M_X10_scores) 82 = .ok (.aload_n 0, 1) := by decide +kernel
theorem dX10_scores_83 : decode (mC M_X10_scores) 83 = .ok (.getfield 48, 3) := by decide +kernel
theorem dX10_scores_86 : decode (mC M_X10_scores) 86 = .ok (.iload_n 1, 1) := by decide +kernel
theorem dX10_scores_87 : decode (mC M_X10_scores) 87 = .ok (.iconst 1, 1) := by decide +kernel
theorem dX10_scores_88 : decode (mC M_X10_scores) 88 = .ok (.aload_n 0, 1) := by decide +kernel
theorem dX10_scores_89 : decode (mC M_X10_scores) 89 = .ok (.getfield 48, 3) := by decide +kernel
theorem dX10_scores_92 : decode (mC M_X10_scores) 92 = .ok (.iload_n 1, 1) := by decide +kernel
theorem dX10_scores_93 : decode (mC M_X10_scores) 93 = .ok (.iaload, 1) := by decide +kernel
theorem dX10_scores_94 : decode (mC M_X10_scores) 94 = .ok (.isub, 1) := by decide +kernel
theorem dX10_scores_95 : decode (mC M_X10_scores) 95 = .ok (.iastore, 1) := by decide +kernel
theorem dX10_scores_96 : decode (mC M_X10_scores) 96 = .ok (.iload_n 2, 1) := by decide +kernel
theorem dX10_scores_97 : decode (mC M_X10_scores) 97 = .ok (.ireturn, 1) := by decide +kernel
theorem dX10_shoot_0 : decode (mC M_X10_shoot) 0 = .ok (.aload_n 0, 1) := by decide +kernel
theorem dX10_shoot_1 : decode (mC M_X10_shoot) 1 = .ok (.iload_n 1, 1) := by decide +kernel
theorem dX10_shoot_2 : decode (mC M_X10_shoot) 2 = .ok (.invokevirtual 160, 3) := by decide +kernel
theorem dX10_shoot_5 : decode (mC M_X10_shoot) 5 = .ok (.ifCond .ne 5, 3) := by decide +kernel
theorem dX10_shoot_8 : decode (mC M_X10_shoot) 8 = .ok (.iconst 0, 1) := by decide +kernel
theorem dX10_shoot_9 : decode (mC M_X10_shoot) 9 = .ok (.ireturn, 1) := by decide +kernel
theorem dX10_shoot_10 : decode (mC M_X10_shoot) 10 = .ok (.aload_n 0, 1) := by decide +kernel
theorem dX10_shoot_11 : decode (mC M_X10_shoot) 11 = .ok (.iload_n 2, 1) := by decide +kernel
theorem dX10_shoot_12 : decode (mC M_X10_shoot) 12 = .ok (.iconst 0, 1) := by decide +kernel
theorem dX10_shoot_13 : decode (mC M_X10_shoot) 13 = .ok (.bipush 7, 2) := by decide +kernel
theorem dX10_shoot_15 : decode (mC M_X10_shoot) 15 = .ok (.invokestatic 75, 3) := by decide +kernel
theorem dX10_shoot_18 : decode (mC M_X10_shoot) 18 = .ok (.ifCond .eq 13, 3) := by decide +kernel
theorem dX10_shoot_21 : decode (mC M_X10_shoot) 21 = .ok (.iload_n 3, 1) := by decide +kernel
theorem dX10_shoot_22 : decode (mC M_X10_shoot) 22 = .ok (.iconst 1, 1) := by decide +kernel
theorem dX10_shoot_23 : decode (mC M_X10_shoot) 23 = .ok (.bipush 40, 2) := by decide +kernel
theorem dX10_shoot_25 : decode (mC M_X10_shoot) 25 = .ok (.invokestatic 75, 3) := by decide +kernel
theorem dX10_shoot_28 : decode (mC M_X10_shoot) 28 = .ok (.ifCond .ne 7, 3) := by decide +kernel
theorem dX10_shoot_31 : decode (mC M_X10_shoot) 31 = .ok (.iconst 2, 1) := by decide +kernel
theorem dX10_shoot_32 : decode (mC M_X10_shoot) 32 = .ok (.goto 17, 3) := by decide +kernel
theorem dX10_shoot_35 : decode (mC M_X10_shoot) 35 = .ok (.aload_n 0, 1) := by decide +kernel
theorem dX10_shoot_36 : decode (mC M_X10_shoot) 36 = .ok (.getfield 45, 3) := by decide +kernel
theorem dX10_shoot_39 : decode (mC M_X10_shoot) 39 = .ok (.iload_n 1, 1) := by decide +kernel
theorem dX10_shoot_40 : decode (mC M_X10_shoot) 40 = .ok (.iaload, 1) := by decide +kernel
theorem dX10_shoot_41 : decode (mC M_X10_shoot) 41 = .ok (.ifCond .eq 7, 3) := by decide +kernel
theorem dX10_shoot_44 : decode (mC M_X10_shoot) 44 = .ok (.iconst 3, 1) := by decide +kernel
theorem dX10_shoot_45 : decode (mC M_X10_shoot) 45 = .ok (.goto 4, 3) := by decide +kernel
theorem dX10_shoot_48 : decode (mC M_X10_shoot) 48 = .ok (.iconst 0, 1) := by decide +kernel
theorem dX10_shoot_49 : decode (mC M_X10_shoot) 49 = .ok (.putfield 72, 3) := by decide +kernel
theorem dX10_shoot_52 : decode (mC M_X10_shoot) 52 = .ok (.aload_n 0, 1) := by decide +kernel
theorem dX10_shoot_53 : decode (mC M_X10_shoot) 53 = .ok (.getfield 72, 3) := by decide +kernel
theorem dX10_shoot_56 : decode (mC M_X10_shoot) 56 = .ok (.ifCond .le 5, 3) := by decide +kernel
theorem dX10_shoot_59 : decode (mC M_X10_shoot) 59 = .ok (.iconst 0, 1) := by decide +kernel
theorem dX10_shoot_60 : decode (mC M_X10_shoot) 60 = .ok (.ireturn, 1) := by decide +kernel
theorem dX10_shoot_61 : decode (mC M_X10_shoot) 61 = .ok (.aload_n 0, 1) := by decide +kernel
theorem dX10_shoot_62 : decode (mC M_X10_shoot) 62 = .ok (.getfield 39, 3) := by decide +kernel
theorem dX10_shoot_65 : decode (mC M_X10_shoot) 65 = .ok (.iconst 2, 1) := by decide +kernel
theorem dX10_shoot_66 : decode (mC M_X10_shoot) 66 = .ok (.iload_n 1, 1) := by decide +kernel
theorem dX10_shoot_67 : decode (mC M_X10_shoot) 67 = .ok (.imul, 1) := by decide +kernel
theorem dX10_shoot_68 : decode (mC M_X10_shoot) 68 = .ok (.aload_n 0, 1) := by decide +kernel
theorem dX10_shoot_69 : decode (mC M_X10_shoot) 69 = .ok (.getfield 48, 3) := by decide +kernel
theorem dX10_shoot_72 : decode (mC M_X10_shoot) 72 = .ok (.iload_n 1, 1) := by decide +kernel
theorem dX10_shoot_73 : decode (mC M_X10_shoot) 73 = .ok (.iaload, 1) := by decide +kernel
theorem dX10_shoot_74 : decode (mC M_X10_shoot) 74 = .ok (.iadd, 1) := by decide +kernel
theorem dX10_shoot_75 : decode (mC M_X10_shoot) 75 = .ok (.iaload, 1) := by decide +kernel
theorem dX10_shoot_76 : decode (mC M_X10_shoot) 76 = .ok (.istore 4, 2) := by decide +kernel
theorem dX10_shoot_78 : decode (mC M_X10_shoot) 78 = .ok (.aload_n 0, 1) := by decide +kernel
theorem dX10_shoot_79 : decode (mC M_X10_shoot) 79 = .ok (.iload_n 1, 1) := by decide +kernel
theorem dX10_shoot_80 : decode (mC M_X10_shoot) 80 = .ok (.invokevirtual 151, 3) := by decide +kernel
theorem dX10_shoot_83 : decode (mC M_X10_shoot) 83 = .ok (.istore 5, 2) := by decide +kernel
theorem dX10_shoot_85 : decode (mC M_X10_shoot) 85 = .ok (.aload_n 0, 1) := by decide +kernel
theorem dX10_shoot_86 : decode (mC M_X10_shoot) 86 = .ok (.iload_n 1, 1) := by decide +kernel
theorem dX10_shoot_87 : decode (mC M_X10_shoot) 87 = .ok (.iload_n 2, 1) := by decide +kernel
theorem dX10_shoot_88 : decode (mC M_X10_shoot) 88 = .ok (.aload_n 0, 1) := by decide +kernel
theorem dX10_shoot_89 : decode (mC M_X10_shoot) 89 = .ok (.iload 4, 2) := by decide +kernel
theorem dX10_shoot_91 : decode (mC M_X10_shoot) 91 = .ok (.iload_n 3, 1) := by decide +kernel
theorem dX10_shoot_92 : decode (mC M_X10_shoot) 92 = .ok (.invokevirtual 163, 3) := by decide +kernel
theorem dX10_shoot_95 : decode (mC M_X10_shoot) 95 = .ok (.invokevirtual 167, 3) := by decide +kernel
theorem dX10_shoot_98 : decode (mC M_X10_shoot) 98 = .ok (.aload_n 0, 1) := by decide +kernel
theorem dX10_shoot_99 : decode (mC M_X10_shoot) 99 = .ok (.iload 4, 2) := by decide +kernel
theorem dX10_shoot_101 : decode (mC M_X10_shoot) 101 = .ok (.invokevirtual 144, 3) := by decide +kernel
theorem dX10_shoot_104 : decode (mC M_X10_shoot) 104 = .ok (.istore 6, 2) := by decide +kernel
theorem dX10_shoot_106 : decode (mC M_X10_shoot) 106 = .ok (.iload 6, 2) := by decide +kernel
theorem dX10_shoot_108 : decode (mC M_X10_shoot) 108 = .ok (.ifCond .lt 39, 3) := by decide +kernel
theorem dX10_shoot_111 : decode (mC M_X10_shoot) 111 = .ok (.aload_n 0, 1) := by decide +kernel
theorem dX10_shoot_112 : decode (mC M_X10_shoot) 112 = .ok (.getfield 33, 3) := by decide +kernel
theorem dX10_shoot_115 : decode (mC M_X10_shoot) 115 = .ok (.iload 6, 2) := by decide +kernel
theorem dX10_shoot_117 : decode (mC M_X10_shoot) 117 = .ok (.iaload, 1) := by decide +kernel
theorem dX10_shoot_118 : decode (mC M_X10_shoot) 118 = .ok (.iload_n 3, 1) := by decide +kernel
theorem dX10_shoot_119 : decode (mC M_X10_shoot) 119 = .ok (.iconst 4, 1) := by decide +kernel
theorem dX10_shoot_120 : decode (mC M_X10_shoot) 120 = .ok (.idiv, 1) := by decide +kernel
theorem dX10_shoot_121 : decode (mC M_X10_shoot) 121 = .ok (.iadd, 1) := by decide +kernel
theorem dX10_shoot_122 : decode (mC M_X10_shoot) 122 = .ok (.iconst 1, 1) := by decide +kernel
theorem dX10_shoot_123 : decode (mC M_X10_shoot) 123 = .ok (.iadd, 1) := by decide +kernel
theorem dX10_shoot_124 : decode (mC M_X10_shoot) 124 = .ok (.istore 7, 2) := by decide +kernel
theorem dX10_shoot_126 : decode (mC M_X10_shoot) 126 = .ok (.aload_n 0, 1) := by decide +kernel
theorem dX10_shoot_127 : decode (mC M_X10_shoot) 127 = .ok (.getfield 33, 3) := by decide +kernel
theorem dX10_shoot_130 : decode (mC M_X10_shoot) 130 = .ok (.iload 6, 2) := by decide +kernel
theorem dX10_shoot_132 : decode (mC M_X10_shoot) 132 = .ok (.iload 7, 2) := by decide +kernel
theorem dX10_shoot_134 : decode (mC M_X10_shoot) 134 = .ok (.bipush 100, 2) := by decide +kernel
theorem dX10_shoot_136 : decode (mC M_X10_shoot) 136 = .ok (.if_icmp .le 8, 3) := by decide +kernel
theorem dX10_shoot_139 : decode (mC M_X10_shoot) 139 = .ok (.bipush 100, 2) := by decide +kernel
theorem dX10_shoot_141 : decode (mC M_X10_shoot) 141 = .ok (.goto 5, 3) := by decide +kernel
theorem dX10_shoot_144 : decode (mC M_X10_shoot) 144 = .ok (.iload 7, 2) := by decide +kernel
theorem dX10_shoot_146 : decode (mC M_X10_shoot) 146 = .ok (.iastore, 1) := by decide +kernel
theorem dX10_shoot_147 : decode (mC M_X10_shoot) 147 = .ok (.iconst 0, 1) := by decide +kernel
theorem dX10_shoot_148 : decode (mC M_X10_shoot) 148 = .ok (.istore 7, 2) := by decide +kernel
theorem dX10_shoot_150 : decode (mC M_X10_shoot) 150 = .ok (.iload 7, 2) := by decide +kernel
theorem dX10_shoot_152 : decode (mC M_X10_shoot) 152 = .ok (.bipush 8, 2) := by decide +kernel
theorem dX10_shoot_154 : decode (mC M_X10_shoot) 154 = .ok (.if_icmp .ge 28, 3) := by decide +kernel
theorem dX10_shoot_157 : decode (mC M_X10_shoot) 157 = .ok (.aload_n 0, 1) := by decide +kernel
theorem dX10_shoot_158 : decode (mC M_X10_shoot) 158 = .ok (.getfield 60, 3) := by decide +kernel
theorem dX10_shoot_161 : decode (mC M_X10_shoot) 161 = .ok (.bipush 8, 2) := by decide +kernel
theorem dX10_shoot_163 : decode (mC M_X10_shoot) 163 = .ok (.iload_n 1, 1) := by decide +kernel
theorem dX10_shoot_164 : decode (mC M_X10_shoot) 164 = .ok (.imul, 1) := by decide +kernel
theorem dX10_shoot_165 : decode (mC M_X10_shoot) 165 = .ok (.iload 7, 2) := by decide +kernel
theorem dX10_shoot_167 : decode (mC M_X10_shoot) 167 = .ok (.iadd, 1) := by decide +kernel
theorem dX10_shoot_168 : decode (mC M_X10_shoot) 168 = .ok (.aload_n 0, 1) := by decide +kernel
theorem dX10_shoot_169 : decode (mC M_X10_shoot) 169 = .ok (.getfield 63, 3) := by decide +kernel
theorem dX10_shoot_172 : decode (mC M_X10_shoot) 172 = .ok (.iload 7, 2) := by decide +kernel
theorem dX10_shoot_174 : decode (mC M_X10_shoot) 174 = .ok (.iaload, 1) := by decide +kernel
theorem dX10_shoot_175 : decode (mC M_X10_shoot) 175 = .ok (.iastore, 1) := by decide +kernel
theorem dX10_shoot_176 : decode (mC M_X10_shoot) 176 = .ok (.iinc 7 1, 3) := by decide +kernel
theorem dX10_shoot_179 : decode (mC M_X10_shoot) 179 = .ok (.goto (-29), 3) := by decide +kernel
theorem dX10_shoot_182 : decode (mC M_X10_shoot) 182 = .ok (.aload_n 0, 1) := by decide +kernel
theorem dX10_shoot_183 : decode (mC M_X10_shoot) 183 = .ok (.getfield 63, 3) := by decide +kernel
theorem dX10_shoot_186 : decode (mC M_X10_shoot) 186 = .ok (.iconst 0, 1) := by decide +kernel
theorem dX10_shoot_187 : decode (mC M_X10_shoot) 187 = .ok (.iaload, 1) := by decide +kernel
theorem dX10_shoot_188 : decode (mC M_X10_shoot) 188 = .ok (.ifCond .lt 28, 3) := by decide +kernel
theorem dX10_shoot_191 : decode (mC M_X10_shoot) 191 = .ok (.aload_n 0, 1) := by decide +kernel
theorem dX10_shoot_192 : decode (mC M_X10_shoot) 192 = .ok (.getfield 125, 3) := by decide +kernel
theorem dX10_shoot_195 : decode (mC M_X10_shoot) 195 = .ok (.ifCond .lt 21, 3) := by decide +kernel
theorem dX10_shoot_198 : decode (mC M_X10_shoot) 198 = .ok (.aload_n 0, 1) := by decide +kernel
theorem dX10_shoot_199 : decode (mC M_X10_shoot) 199 = .ok (.getfield 125, 3) := by decide +kernel
theorem dX10_shoot_202 : decode (mC M_X10_shoot) 202 = .ok (.iload 5, 2) := by decide +kernel
theorem dX10_shoot_204 : decode (mC M_X10_shoot) 204 = .ok (.if_icmp .eq 16, 3) := by decide +kernel
theorem dX10_shoot_207 : decode (mC M_X10_shoot) 207 = .ok (.aload_n 0, 1) := by decide +kernel
theorem dX10_shoot_208 : decode (mC M_X10_shoot) 208 = .ok (.getfield 54, 3) := by decide +kernel
theorem dX10_shoot_211 : decode (mC M_X10_shoot) 211 = .ok (.iload_n 1, 1) := by decide +kernel
theorem dX10_shoot_212 : decode (mC M_X10_shoot) 212 = .ok (.baload, 1) := by decide +kernel
theorem dX10_shoot_213 : decode (mC M_X10_shoot) 213 = .ok (.ifCond .ne 7, 3) := by decide +kernel
theorem dX10_shoot_216 : decode (mC M_X10_shoot) 216 = .ok (.iconst 1, 1) := by decide +kernel
theorem dX10_shoot_217 : decode (mC M_X10_shoot) 217 = .ok (.goto 4, 3) := by decide +kernel
theorem dX10_shoot_220 : decode (mC M_X10_shoot) 220 = .ok (.iconst 0, 1) := by decide +kernel
theorem dX10_shoot_221 : decode (mC M_X10_shoot) 221 = .ok (.istore 7, 2) := by decide +kernel
theorem dX10_shoot_223 : decode (mC M_X10_shoot) 223 = .ok (.iload 7, 2) := by decide +kernel
theorem dX10_shoot_225 : decode (mC M_X10_shoot) 225 = .ok (.ifCond .eq 13, 3) := by decide +kernel
theorem dX10_shoot_228 : decode (mC M_X10_shoot) 228 = .ok (.aload_n 0, 1) := by decide +kernel
theorem dX10_shoot_229 : decode (mC M_X10_shoot) 229 = .ok (.iload_n 1, 1) := by decide +kernel
theorem dX10_shoot_230 : decode (mC M_X10_shoot) 230 = .ok (.iload 5, 2) := by decide +kernel
theorem dX10_shoot_232 : decode (mC M_X10_shoot) 232 = .ok (.invokevirtual 171, 3) := by decide +kernel
theorem dX10_shoot_235 : decode (mC M_X10_shoot) 235 = .ok (.goto 8, 3) := by decide +kernel
theorem dX10_shoot_238 : decode (mC M_X10_shoot) 238 = .ok (.aload_n 0, 1) := by decide +kernel
theorem dX10_shoot_239 : decode (mC M_X10_shoot) 239 = .ok (.iload_n 1, 1) := by decide +kernel
theorem dX10_shoot_240 : decode (mC M_X10_shoot) 240 = .ok (.invokevirtual 174, 3) := by decide +kernel
theorem dX10_shoot_243 : decode (mC M_X10_shoot) 243 = .ok (.ireturn, 1) := by decide +kernel
theorem dX10_isCue_0 : decode (mC M_X10_isCue) 0 = .ok (.iload_n 0, 1) := by decide +kernel
theorem dX10_isCue_1 : decode (mC M_X10_isCue) 1 = .ok (.iconst 0, 1) := by decide +kernel
theorem dX10_isCue_2 : decode (mC M_X10_isCue) 2 = .ok (.iconst 5, 1) := by decide +kernel
theorem dX10_isCue_3 : decode (mC M_X10_isCue) 3 = .ok (.invokestatic 75, 3) := by decide +kernel
theorem dX10_isCue_6 : decode (mC M_X10_isCue) 6 = .ok (.ireturn, 1) := by decide +kernel
theorem dX10_lend_0 : decode (mC M_X10_lend) 0 = .ok (.aload_n 0, 1) := by decide +kernel
theorem dX10_lend_1 : decode (mC M_X10_lend) 1 = .ok (.iload_n 1, 1) := by decide +kernel
theorem dX10_lend_2 : decode (mC M_X10_lend) 2 = .ok (.invokestatic 177, 3) := by decide +kernel
theorem dX10_lend_5 : decode (mC M_X10_lend) 5 = .ok (.ifCond .eq 14, 3) := by decide +kernel
theorem dX10_lend_8 : decode (mC M_X10_lend) 8 = .ok (.iload_n 2, 1) := by decide +kernel
theorem dX10_lend_9 : decode (mC M_X10_lend) 9 = .ok (.invokestatic 83, 3) := by decide +kernel
theorem dX10_lend_12 : decode (mC M_X10_lend) 12 = .ok (.ifCond .eq 7, 3) := by decide +kernel
theorem dX10_lend_15 : decode (mC M_X10_lend) 15 = .ok (.iconst 0, 1) := by decide +kernel
theorem dX10_lend_16 : decode (mC M_X10_lend) 16 = .ok (.goto 4, 3) := by decide +kernel
theorem dX10_lend_19 : decode (mC M_X10_lend) 19 = .ok (.iconst 1, 1) := by decide +kernel
theorem dX10_lend_20 : decode (mC M_X10_lend) 20 = .ok (.putfield 72, 3) := by decide +kernel
theorem dX10_lend_23 : decode (mC M_X10_lend) 23 = .ok (.aload_n 0, 1) := by decide +kernel
theorem dX10_lend_24 : decode (mC M_X10_lend) 24 = .ok (.getfield 72, 3) := by decide +kernel
theorem dX10_lend_27 : decode (mC M_X10_lend) 27 = .ok (.ifCond .le 5, 3) := by decide +kernel
theorem dX10_lend_30 : decode (mC M_X10_lend) 30 = .ok (.iconst 0, 1) := by decide +kernel
theorem dX10_lend_31 : decode (mC M_X10_lend) 31 = .ok (.ireturn, 1) := by decide +kernel
theorem dX10_lend_32 : decode (mC M_X10_lend) 32 = .ok (.aload_n 0, 1) := by decide +kernel
theorem dX10_lend_33 : decode (mC M_X10_lend) 33 = .ok (.aload_n 0, 1) := by decide +kernel
theorem dX10_lend_34 : decode (mC M_X10_lend) 34 = .ok (.getfield 30, 3) := by decide +kernel
theorem dX10_lend_37 : decode (mC M_X10_lend) 37 = .ok (.iload_n 1, 1) := by decide +kernel
theorem dX10_lend_38 : decode (mC M_X10_lend) 38 = .ok (.iaload, 1) := by decide +kernel
theorem dX10_lend_39 : decode (mC M_X10_lend) 39 = .ok (.ifCond .gt 11, 3) := by decide +kernel
theorem dX10_lend_42 : decode (mC M_X10_lend) 42 = .ok (.aload_n 0, 1) := by decide +kernel
theorem dX10_lend_43 : decode (mC M_X10_lend) 43 = .ok (.iload_n 2, 1) := by decide +kernel
theorem dX10_lend_44 : decode (mC M_X10_lend) 44 = .ok (.invokevirtual 144, 3) := by decide +kernel
theorem dX10_lend_47 : decode (mC M_X10_lend) 47 = .ok (.ifCond .lt 7, 3) := by decide +kernel
theorem dX10_lend_50 : decode (mC M_X10_lend) 50 = .ok (.iconst 2, 1) := by decide +kernel
theorem dX10_lend_51 : decode (mC M_X10_lend) 51 = .ok (.goto 4, 3) := by decide +kernel
theorem dX10_lend_54 : decode (mC M_X10_lend) 54 = .ok (.iconst 0, 1) := by decide +kernel
theorem dX10_lend_55 : decode (mC M_X10_lend) 55 = .ok (.putfield 72, 3) := by decide +kernel
theorem dX10_lend_58 : decode (mC M_X10_lend) 58 = .ok (.aload_n 0, 1) := by decide +kernel
theorem dX10_lend_59 : decode (mC M_X10_lend) 59 = .ok (.getfield 72, 3) := by decide +kernel
theorem dX10_lend_62 : decode (mC M_X10_lend) 62 = .ok (.ifCond .le 5, 3) := by decide +kernel
theorem dX10_lend_65 : decode (mC M_X10_lend) 65 = .ok (.iconst 0, 1) := by decide +kernel
theorem dX10_lend_66 : decode (mC M_X10_lend) 66 = .ok (.ireturn, 1) := by decide +kernel
theorem dX10_lend_67 : decode (mC M_X10_lend) 67 = .ok (.aload_n 0, 1) := by decide +kernel
theorem dX10_lend_68 : decode (mC M_X10_lend) 68 = .ok (.getfield 30, 3) := by decide +kernel
theorem dX10_lend_71 : decode (mC M_X10_lend) 71 = .ok (.iload_n 1, 1) := by decide +kernel
theorem dX10_lend_72 : decode (mC M_X10_lend) 72 = .ok (.iload_n 2, 1) := by decide +kernel
theorem dX10_lend_73 : decode (mC M_X10_lend) 73 = .ok (.iconst 1, 1) := by decide +kernel
theorem dX10_lend_74 : decode (mC M_X10_lend) 74 = .ok (.iadd, 1) := by decide +kernel
theorem dX10_lend_75 : decode (mC M_X10_lend) 75 = .ok (.iastore, 1) := by decide +kernel
theorem dX10_lend_76 : decode (mC M_X10_lend) 76 = .ok (.aload_n 0, 1) := by decide +kernel
theorem dX10_lend_77 : decode (mC M_X10_lend) 77 = .ok (.getfield 36, 3) := by decide +kernel
theorem dX10_lend_80 : decode (mC M_X10_lend) 80 = .ok (.iload_n 1, 1) := by decide +kernel
theorem dX10_lend_81 : decode (mC M_X10_lend) 81 = .ok (.aload_n 0, 1) := by decide +kernel
theorem dX10_lend_82 : decode (mC M_X10_lend) 82 = .ok (.getfield 33, 3) := by decide +kernel
theorem dX10_lend_85 : decode (mC M_X10_lend) 85 = .ok (.iload_n 1, 1) := by decide +kernel
theorem dX10_lend_86 : decode (mC M_X10_lend) 86 = .ok (.iaload, 1) := by decide +kernel
theorem dX10_lend_87 : decode (mC M_X10_lend) 87 = .ok (.iastore, 1) := by decide +kernel
theorem dX10_lend_88 : decode (mC M_X10_lend) 88 = .ok (.aload_n 0, 1) := by decide +kernel
theorem dX10_lend_89 : decode (mC M_X10_lend) 89 = .ok (.getfield 33, 3) := by decide +kernel
theorem dX10_lend_92 : decode (mC M_X10_lend) 92 = .ok (.iload_n 1, 1) := by decide +kernel
theorem dX10_lend_93 : decode (mC M_X10_lend) 93 = .ok (.iaload, 1) := by decide +kernel
theorem dX10_lend_94 : decode (mC M_X10_lend) 94 = .ok (.ireturn, 1) := by decide +kernel
theorem dX10_takeBack_0 : decode (mC M_X10_takeBack) 0 = .ok (.aload_n 0, 1) := by decide +kernel
theorem dX10_takeBack_1 : decode (mC M_X10_takeBack) 1 = .ok (.iload_n 1, 1) := by decide +kernel
theorem dX10_takeBack_2 : decode (mC M_X10_takeBack) 2 = .ok (.invokestatic 177, 3) := by decide +kernel
theorem dX10_takeBack_5 : decode (mC M_X10_takeBack) 5 = .ok (.ifCond .eq 7, 3) := by decide +kernel
theorem dX10_takeBack_8 : decode (mC M_X10_takeBack) 8 = .ok (.iconst 0, 1) := by decide +kernel
theorem dX10_takeBack_9 : decode (mC M_X10_takeBack) 9 = .ok (.goto 4, 3) := by decide +kernel
theorem dX10_takeBack_12 : decode (mC M_X10_takeBack) 12 = .ok (.iconst 1, 1) := by decide +kernel
theorem dX10_takeBack_13 : decode (mC M_X10_takeBack) 13 = .ok (.putfield 72, 3) := by decide +kernel
theorem dX10_takeBack_16 : decode (mC M_X10_takeBack) 16 = .ok (.aload_n 0, 1) := by decide +kernel
theorem dX10_takeBack_17 : decode (mC M_X10_takeBack) 17 = .ok (.getfield 72, 3) := by decide +kernel
theorem dX10_takeBack_20 : decode (mC M_X10_takeBack) 20 = .ok (.ifCond .le 5, 3) := by decide +kernel
theorem dX10_takeBack_23 : decode (mC M_X10_takeBack) 23 = .ok (.iconst 0, 1) := by decide +kernel
theorem dX10_takeBack_24 : decode (mC M_X10_takeBack) 24 = .ok (.ireturn, 1) := by decide +kernel
theorem dX10_takeBack_25 : decode (mC M_X10_takeBack) 25 = .ok (.aload_n 0, 1) := by decide +kernel
theorem dX10_takeBack_26 : decode (mC M_X10_takeBack) 26 = .ok (.aload_n 0, 1) := by decide +kernel
theorem dX10_takeBack_27 : decode (mC M_X10_takeBack) 27 = .ok (.getfield 30, 3) := by decide +kernel
theorem dX10_takeBack_30 : decode (mC M_X10_takeBack) 30 = .ok (.iload_n 1, 1) := by decide +kernel
theorem dX10_takeBack_31 : decode (mC M_X10_takeBack) 31 = .ok (.iaload, 1) := by decide +kernel
theorem dX10_takeBack_32 : decode (mC M_X10_takeBack) 32 = .ok (.ifCond .ne 7, 3) := by decide +kernel
theorem dX10_takeBack_35 : decode (mC M_X10_takeBack) 35 = .ok (.iconst 2, 1) := by decide +kernel
theorem dX10_takeBack_36 : decode (mC M_X10_takeBack) 36 = .ok (.goto 4, 3) := by decide +kernel
theorem dX10_takeBack_39 : decode (mC M_X10_takeBack) 39 = .ok (.iconst 0, 1) := by decide +kernel
theorem dX10_takeBack_40 : decode (mC M_X10_takeBack) 40 = .ok (.putfield 72, 3) := by decide +kernel
theorem dX10_takeBack_43 : decode (mC M_X10_takeBack) 43 = .ok (.aload_n 0, 1) := by decide +kernel
theorem dX10_takeBack_44 : decode (mC M_X10_takeBack) 44 = .ok (.getfield 72, 3) := by decide +kernel
theorem dX10_takeBack_47 : decode (mC M_X10_takeBack) 47 = .ok (.ifCond .le 5, 3) := by decide +kernel
theorem dX10_takeBack_50 : decode (mC M_X10_takeBack) 50 = .ok (.iconst 0, 1) := by decide +kernel
theorem dX10_takeBack_51 : decode (mC M_X10_takeBack) 51 = .ok (.ireturn, 1) := by decide +kernel
theorem dX10_takeBack_52 : decode (mC M_X10_takeBack) 52 = .ok (.aload_n 0, 1) := by decide +kernel
theorem dX10_takeBack_53 : decode (mC M_X10_takeBack) 53 = .ok (.getfield 33, 3) := by decide +kernel
theorem dX10_takeBack_56 : decode (mC M_X10_takeBack) 56 = .ok (.iload_n 1, 1) := by decide +kernel
theorem dX10_takeBack_57 : decode (mC M_X10_takeBack) 57 = .ok (.iaload, 1) := by decide +kernel
theorem dX10_takeBack_58 : decode (mC M_X10_takeBack) 58 = .ok (.aload_n 0, 1) := by decide +kernel
theorem dX10_takeBack_59 : decode (mC M_X10_takeBack) 59 = .ok (.getfield 36, 3) := by decide +kernel
theorem dX10_takeBack_62 : decode (mC M_X10_takeBack) 62 = .ok (.iload_n 1, 1) := by decide +kernel
theorem dX10_takeBack_63 : decode (mC M_X10_takeBack) 63 = .ok (.iaload, 1) := by decide +kernel
theorem dX10_takeBack_64 : decode (mC M_X10_takeBack) 64 = .ok (.isub, 1) := by decide +kernel
theorem dX10_takeBack_65 : decode (mC M_X10_takeBack) 65 = .ok (.iconst 5, 1) := by decide +kernel
theorem dX10_takeBack_66 : decode (mC M_X10_takeBack) 66 = .ok (.idiv, 1) := by decide +kernel
theorem dX10_takeBack_67 : decode (mC M_X10_takeBack) 67 = .ok (.istore_n 2, 1) := by decide +kernel
theorem dX10_takeBack_68 : decode (mC M_X10_takeBack) 68 = .ok (.aload_n 0, 1) := by decide +kernel
theorem dX10_takeBack_69 : decode (mC M_X10_takeBack) 69 = .ok (.getfield 27, 3) := by decide +kernel
theorem dX10_takeBack_72 : decode (mC M_X10_takeBack) 72 = .ok (.aload_n 0, 1) := by decide +kernel
theorem dX10_takeBack_73 : decode (mC M_X10_takeBack) 73 = .ok (.getfield 30, 3) := by decide +kernel
theorem dX10_takeBack_76 : decode (mC M_X10_takeBack) 76 = .ok (.iload_n 1, 1) := by decide +kernel
theorem dX10_takeBack_77 : decode (mC M_X10_takeBack) 77 = .ok (.iaload, 1) := by decide +kernel
theorem dX10_takeBack_78 : decode (mC M_X10_takeBack) 78 = .ok (.iconst 1, 1) := by decide +kernel
theorem dX10_takeBack_79 : decode (mC M_X10_takeBack) 79 = .ok (.isub, 1) := by decide +kernel
theorem dX10_takeBack_80 : decode (mC M_X10_takeBack) 80 = .ok (.dup2, 1) := by decide +kernel
theorem dX10_takeBack_81 : decode (mC M_X10_takeBack) 81 = .ok (.iaload, 1) := by decide +kernel
theorem dX10_takeBack_82 : decode (mC M_X10_takeBack) 82 = .ok (.iload_n 2, 1) := by decide +kernel
theorem dX10_takeBack_83 : decode (mC M_X10_takeBack) 83 = .ok (.iadd, 1) := by decide +kernel
theorem dX10_takeBack_84 : decode (mC M_X10_takeBack) 84 = .ok (.iastore, 1) := by decide +kernel
theorem dX10_takeBack_85 : decode (mC M_X10_takeBack) 85 = .ok (.aload_n 0, 1) := by decide +kernel
theorem dX10_takeBack_86 : decode (mC M_X10_takeBack) 86 = .ok (.getfield 30, 3) := by decide +kernel
theorem dX10_takeBack_89 : decode (mC M_X10_takeBack) 89 = .ok (.iload_n 1, 1) := by decide +kernel
theorem dX10_takeBack_90 : decode (mC M_X10_takeBack) 90 = .ok (.iconst 0, 1) := by decide +kernel
theorem dX10_takeBack_91 : decode (mC M_X10_takeBack) 91 = .ok (.iastore, 1) := by decide +kernel
theorem dX10_takeBack_92 : decode (mC M_X10_takeBack) 92 = .ok (.bipush 20, 2) := by decide +kernel
theorem dX10_takeBack_94 : decode (mC M_X10_takeBack) 94 = .ok (.iload_n 2, 1) := by decide +kernel
theorem dX10_takeBack_95 : decode (mC M_X10_takeBack) 95 = .ok (.isub, 1) := by decide +kernel
theorem dX10_takeBack_96 : decode (mC M_X10_takeBack) 96 = .ok (.ireturn, 1) := by decide +kernel
theorem dX10_tip_0 : decode (mC M_X10_tip) 0 = .ok (.aload_n 0, 1) := by decide +kernel
theorem dX10_tip_1 : decode (mC M_X10_tip) 1 = .ok (.iload_n 1, 1) := by decide +kernel
theorem dX10_tip_2 : decode (mC M_X10_tip) 2 = .ok (.invokestatic 177, 3) := by decide +kernel
theorem dX10_tip_5 : decode (mC M_X10_tip) 5 = .ok (.ifCond .eq 7, 3) := by decide +kernel
theorem dX10_tip_8 : decode (mC M_X10_tip) 8 = .ok (.iconst 0, 1) := by decide +kernel
theorem dX10_tip_9 : decode (mC M_X10_tip) 9 = .ok (.goto 4, 3) := by decide +kernel
theorem dX10_tip_12 : decode (mC M_X10_tip) 12 = .ok (.iconst 1, 1) := by decide +kernel
theorem dX10_tip_13 : decode (mC M_X10_tip) 13 = .ok (.putfield 72, 3) := by decide +kernel
theorem dX10_tip_16 : decode (mC M_X10_tip) 16 = .ok (.aload_n 0, 1) := by decide +kernel
theorem dX10_tip_17 : decode (mC M_X10_tip) 17 = .ok (.getfield 72, 3) := by decide +kernel
theorem dX10_tip_20 : decode (mC M_X10_tip) 20 = .ok (.ifCond .le 5, 3) := by decide +kernel
theorem dX10_tip_23 : decode (mC M_X10_tip) 23 = .ok (.iconst 0, 1) := by decide +kernel
theorem dX10_tip_24 : decode (mC M_X10_tip) 24 = .ok (.ireturn, 1) := by decide +kernel
theorem dX10_tip_25 : decode (mC M_X10_tip) 25 = .ok (.aload_n 0, 1) := by decide +kernel
theorem dX10_tip_26 : decode (mC M_X10_tip) 26 = .ok (.aload_n 0, 1) := by decide +kernel
theorem dX10_tip_27 : decode (mC M_X10_tip) 27 = .ok (.getfield 30, 3) := by decide +kernel
theorem dX10_tip_30 : decode (mC M_X10_tip) 30 = .ok (.iload_n 1, 1) := by decide +kernel
theorem dX10_tip_31 : decode (mC M_X10_tip) 31 = .ok (.iaload, 1) := by decide +kernel
theorem dX10_tip_32 : decode (mC M_X10_tip) 32 = .ok (.ifCond .le 7, 3) := by decide +kernel
theorem dX10_tip_35 : decode (mC M_X10_tip) 35 = .ok (.iconst 2, 1) := by decide +kernel
theorem dX10_tip_36 : decode (mC M_X10_tip) 36 = .ok (.goto 4, 3) := by decide +kernel
theorem dX10_tip_39 : decode (mC M_X10_tip) 39 = .ok (.iconst 0, 1) := by decide +kernel
theorem dX10_tip_40 : decode (mC M_X10_tip) 40 = .ok (.putfield 72, 3) := by decide +kernel
theorem dX10_tip_43 : decode (mC M_X10_tip) 43 = .ok (.aload_n 0, 1) := by decide +kernel
theorem dX10_tip_44 : decode (mC M_X10_tip) 44 = .ok (.getfield 72, 3) := by decide +kernel
theorem dX10_tip_47 : decode (mC M_X10_tip) 47 = .ok (.ifCond .le 5, 3) := by decide +kernel
theorem dX10_tip_50 : decode (mC M_X10_tip) 50 = .ok (.iconst 0, 1) := by decide +kernel
theorem dX10_tip_51 : decode (mC M_X10_tip) 51 = .ok (.ireturn, 1) := by decide +kernel
theorem dX10_tip_52 : decode (mC M_X10_tip) 52 = .ok (.aload_n 0, 1) := by decide +kernel
theorem dX10_tip_53 : decode (mC M_X10_tip) 53 = .ok (.getfield 33, 3) := by decide +kernel
theorem dX10_tip_56 : decode (mC M_X10_tip) 56 = .ok (.iload_n 1, 1) := by decide +kernel
theorem dX10_tip_57 : decode (mC M_X10_tip) 57 = .ok (.iaload, 1) := by decide +kernel
theorem dX10_tip_58 : decode (mC M_X10_tip) 58 = .ok (.istore_n 2, 1) := by decide +kernel
theorem dX10_tip_59 : decode (mC M_X10_tip) 59 = .ok (.aload_n 0, 1) := by decide +kernel
theorem dX10_tip_60 : decode (mC M_X10_tip) 60 = .ok (.getfield 33, 3) := by decide +kernel
theorem dX10_tip_63 : decode (mC M_X10_tip) 63 = .ok (.iload_n 1, 1) := by decide +kernel
theorem dX10_tip_64 : decode (mC M_X10_tip) 64 = .ok (.iconst 0, 1) := by decide +kernel
theorem dX10_tip_65 : decode (mC M_X10_tip) 65 = .ok (.iastore, 1) := by decide +kernel
theorem dX10_tip_66 : decode (mC M_X10_tip) 66 = .ok (.iload_n 2, 1) := by decide +kernel
theorem dX10_tip_67 : decode (mC M_X10_tip) 67 = .ok (.ireturn, 1) := by decide +kernel
theorem dX10_minute_0 : decode (mC M_X10_minute) 0 = .ok (.aload_n 0, 1) := by decide +kernel
theorem dX10_minute_1 : decode (mC M_X10_minute) 1 = .ok (.iconst 0, 1) := by decide +kernel
theorem dX10_minute_2 : decode (mC M_X10_minute) 2 = .ok (.putfield 72, 3) := by decide +kernel
theorem dX10_minute_5 : decode (mC M_X10_minute) 5 = .ok (.aload_n 0, 1) := by decide +kernel
theorem dX10_minute_6 : decode (mC M_X10_minute) 6 = .ok (.getfield 100, 3) := by decide +kernel
theorem dX10_minute_9 : decode (mC M_X10_minute) 9 = .ok (.ireturn, 1) := by decide +kernel
theorem dX10_isOpen_0 : decode (mC M_X10_isOpen) 0 = .ok (.aload_n 0, 1) := by decide +kernel
theorem dX10_isOpen_1 : decode (mC M_X10_isOpen) 1 = .ok (.iload_n 1, 1) := by decide +kernel
theorem dX10_isOpen_2 : decode (mC M_X10_isOpen) 2 = .ok (.invokevirtual 94, 3) := by decide +kernel
theorem dX10_isOpen_5 : decode (mC M_X10_isOpen) 5 = .ok (.ifCond .eq 16, 3) := by decide +kernel
theorem dX10_isOpen_8 : decode (mC M_X10_isOpen) 8 = .ok (.aload_n 0, 1) := by decide +kernel
theorem dX10_isOpen_9 : decode (mC M_X10_isOpen) 9 = .ok (.getfield 13, 3) := by decide +kernel
theorem dX10_isOpen_12 : decode (mC M_X10_isOpen) 12 = .ok (.iload_n 1, 1) := by decide +kernel
theorem dX10_isOpen_13 : decode (mC M_X10_isOpen) 13 = .ok (.baload, 1) := by decide +kernel
theorem dX10_isOpen_14 : decode (mC M_X10_isOpen) 14 = .ok (.ifCond .ne 7, 3) := by decide +kernel
theorem dX10_isOpen_17 : decode (mC M_X10_isOpen) 17 = .ok (.iconst 1, 1) := by decide +kernel
theorem dX10_isOpen_18 : decode (mC M_X10_isOpen) 18 = .ok (.goto 4, 3) := by decide +kernel
theorem dX10_isOpen_21 : decode (mC M_X10_isOpen) 21 = .ok (.iconst 0, 1) := by decide +kernel
theorem dX10_isOpen_22 : decode (mC M_X10_isOpen) 22 = .ok (.ireturn, 1) := by decide +kernel
theorem dX10_renter_0 : decode (mC M_X10_renter) 0 = .ok (.aload_n 0, 1) := by decide +kernel
theorem dX10_renter_1 : decode (mC M_X10_renter) 1 = .ok (.iload_n 1, 1) := by decide +kernel
theorem dX10_renter_2 : decode (mC M_X10_renter) 2 = .ok (.invokevirtual 94, 3) := by decide +kernel
theorem dX10_renter_5 : decode (mC M_X10_renter) 5 = .ok (.ifCond .eq 14, 3) := by decide +kernel
theorem dX10_renter_8 : decode (mC M_X10_renter) 8 = .ok (.aload_n 0, 1) := by decide +kernel
theorem dX10_renter_9 : decode (mC M_X10_renter) 9 = .ok (.getfield 17, 3) := by decide +kernel
theorem dX10_renter_12 : decode (mC M_X10_renter) 12 = .ok (.iload_n 1, 1) := by decide +kernel
theorem dX10_renter_13 : decode (mC M_X10_renter) 13 = .ok (.iaload, 1) := by decide +kernel
theorem dX10_renter_14 : decode (mC M_X10_renter) 14 = .ok (.iconst 1, 1) := by decide +kernel
theorem dX10_renter_15 : decode (mC M_X10_renter) 15 = .ok (.isub, 1) := by decide +kernel
theorem dX10_renter_16 : decode (mC M_X10_renter) 16 = .ok (.goto 4, 3) := by decide +kernel
theorem dX10_renter_19 : decode (mC M_X10_renter) 19 = .ok (.iconst 0, 1) := by decide +kernel
theorem dX10_renter_20 : decode (mC M_X10_renter) 20 = .ok (.ireturn, 1) := by decide +kernel
theorem dX10_clock_0 : decode (mC M_X10_clock) 0 = .ok (.aload_n 0, 1) := by decide +kernel
theorem dX10_clock_1 : decode (mC M_X10_clock) 1 = .ok (.iload_n 1, 1) := by decide +kernel
theorem dX10_clock_2 : decode (mC M_X10_clock) 2 = .ok (.invokevirtual 94, 3) := by decide +kernel
theorem dX10_clock_5 : decode (mC M_X10_clock) 5 = .ok (.ifCond .eq 12, 3) := by decide +kernel
theorem dX10_clock_8 : decode (mC M_X10_clock) 8 = .ok (.aload_n 0, 1) := by decide +kernel
theorem dX10_clock_9 : decode (mC M_X10_clock) 9 = .ok (.getfield 24, 3) := by decide +kernel
theorem dX10_clock_12 : decode (mC M_X10_clock) 12 = .ok (.iload_n 1, 1) := by decide +kernel
theorem dX10_clock_13 : decode (mC M_X10_clock) 13 = .ok (.iaload, 1) := by decide +kernel
theorem dX10_clock_14 : decode (mC M_X10_clock) 14 = .ok (.goto 4, 3) := by decide +kernel
theorem dX10_clock_17 : decode (mC M_X10_clock) 17 = .ok (.iconst 0, 1) := by decide +kernel
theorem dX10_clock_18 : decode (mC M_X10_clock) 18 = .ok (.ireturn, 1) := by decide +kernel
theorem dX10_frameOn_0 : decode (mC M_X10_frameOn) 0 = .ok (.aload_n 0, 1) := by decide +kernel
theorem dX10_frameOn_1 : decode (mC M_X10_frameOn) 1 = .ok (.iload_n 1, 1) := by decide +kernel
theorem dX10_frameOn_2 : decode (mC M_X10_frameOn) 2 = .ok (.invokevirtual 94, 3) := by decide +kernel
theorem dX10_frameOn_5 : decode (mC M_X10_frameOn) 5 = .ok (.ifCond .eq 14, 3) := by decide +kernel
theorem dX10_frameOn_8 : decode (mC M_X10_frameOn) 8 = .ok (.aload_n 0, 1) := by decide +kernel
theorem dX10_frameOn_9 : decode (mC M_X10_frameOn) 9 = .ok (.getfield 21, 3) := by decide +kernel
theorem dX10_frameOn_12 : decode (mC M_X10_frameOn) 12 = .ok (.iload_n 1, 1) := by decide +kernel
theorem dX10_frameOn_13 : decode (mC M_X10_frameOn) 13 = .ok (.iaload, 1) := by decide +kernel
theorem dX10_frameOn_14 : decode (mC M_X10_frameOn) 14 = .ok (.iconst 1, 1) := by decide +kernel
theorem dX10_frameOn_15 : decode (mC M_X10_frameOn) 15 = .ok (.isub, 1) := by decide +kernel
theorem dX10_frameOn_16 : decode (mC M_X10_frameOn) 16 = .ok (.goto 4, 3) := by decide +kernel
theorem dX10_frameOn_19 : decode (mC M_X10_frameOn) 19 = .ok (.iconst 0, 1) := by decide +kernel
theorem dX10_frameOn_20 : decode (mC M_X10_frameOn) 20 = .ok (.ireturn, 1) := by decide +kernel
theorem dX10_sum_0 : decode (mC M_X10_sum) 0 = .ok (.aload_n 0, 1) := by decide +kernel
theorem dX10_sum_1 : decode (mC M_X10_sum) 1 = .ok (.iload_n 1, 1) := by decide +kernel
theorem dX10_sum_2 : decode (mC M_X10_sum) 2 = .ok (.invokestatic 83, 3) := by decide +kernel
theorem dX10_sum_5 : decode (mC M_X10_sum) 5 = .ok (.ifCond .eq 7, 3) := by decide +kernel
theorem dX10_sum_8 : decode (mC M_X10_sum) 8 = .ok (.iconst 0, 1) := by decide +kernel
theorem dX10_sum_9 : decode (mC M_X10_sum) 9 = .ok (.goto 4, 3) := by decide +kernel
theorem dX10_sum_12 : decode (mC M_X10_sum) 12 = .ok (.iconst 1, 1) := by decide +kernel
theorem dX10_sum_13 : decode (mC M_X10_sum) 13 = .ok (.putfield 72, 3) := by decide +kernel
theorem dX10_sum_16 : decode (mC M_X10_sum) 16 = .ok (.aload_n 0, 1) := by decide +kernel
theorem dX10_sum_17 : decode (mC M_X10_sum) 17 = .ok (.getfield 72, 3) := by decide +kernel
theorem dX10_sum_20 : decode (mC M_X10_sum) 20 = .ok (.ifCond .le 7, 3) := by decide +kernel
theorem dX10_sum_23 : decode (mC M_X10_sum) 23 = .ok (.iconst 0, 1) := by decide +kernel
theorem dX10_sum_24 : decode (mC M_X10_sum) 24 = .ok (.goto 24, 3) := by decide +kernel
theorem dX10_sum_27 : decode (mC M_X10_sum) 27 = .ok (.aload_n 0, 1) := by decide +kernel
theorem dX10_sum_28 : decode (mC M_X10_sum) 28 = .ok (.getfield 27, 3) := by decide +kernel
theorem dX10_sum_31 : decode (mC M_X10_sum) 31 = .ok (.iload_n 1, 1) := by decide +kernel
theorem dX10_sum_32 : decode (mC M_X10_sum) 32 = .ok (.iaload, 1) := by decide +kernel
theorem dX10_sum_33 : decode (mC M_X10_sum) 33 = .ok (.aload_n 0, 1) := by decide +kernel
theorem dX10_sum_34 : decode (mC M_X10_sum) 34 = .ok (.iload_n 1, 1) := by decide +kernel
theorem dX10_sum_35 : decode (mC M_X10_sum) 35 = .ok (.invokevirtual 144, 3) := by decide +kernel
theorem dX10_sum_38 : decode (mC M_X10_sum) 38 = .ok (.ifCond .ge 7, 3) := by decide +kernel
theorem dX10_sum_41 : decode (mC M_X10_sum) 41 = .ok (.iconst 0, 1) := by decide +kernel
theorem dX10_sum_42 : decode (mC M_X10_sum) 42 = .ok (.goto 5, 3) := by decide +kernel
theorem dX10_sum_45 : decode (mC M_X10_sum) 45 = .ok (.bipush 20, 2) := by decide +kernel
theorem dX10_sum_47 : decode (mC M_X10_sum) 47 = .ok (.iadd, 1) := by decide +kernel
theorem dX10_sum_48 : decode (mC M_X10_sum) 48 = .ok (.ireturn, 1) := by decide +kernel
theorem dX10_owes_0 : decode (mC M_X10_owes) 0 = .ok (.aload_n 0, 1) := by decide +kernel
theorem dX10_owes_1 : decode (mC M_X10_owes) 1 = .ok (.iload_n 1, 1) := by decide +kernel
theorem dX10_owes_2 : decode (mC M_X10_owes) 2 = .ok (.invokevirtual 180, 3) := by decide +kernel
theorem dX10_owes_5 : decode (mC M_X10_owes) 5 = .ok (.ireturn, 1) := by decide +kernel
theorem dX10_owesAnew_0 : decode (mC M_X10_owesAnew) 0 = .ok (.aload_n 0, 1) := by decide +kernel
theorem dX10_owesAnew_1 : decode (mC M_X10_owesAnew) 1 = .ok (.iload_n 1, 1) := by decide +kernel
theorem dX10_owesAnew_2 : decode (mC M_X10_owesAnew) 2 = .ok (.invokevirtual 180, 3) := by decide +kernel
theorem dX10_owesAnew_5 : decode (mC M_X10_owesAnew) 5 = .ok (.ireturn, 1) := by decide +kernel
theorem dX10_frames_0 : decode (mC M_X10_frames) 0 = .ok (.aload_n 0, 1) := by decide +kernel
theorem dX10_frames_1 : decode (mC M_X10_frames) 1 = .ok (.iconst 0, 1) := by decide +kernel
theorem dX10_frames_2 : decode (mC M_X10_frames) 2 = .ok (.putfield 72, 3) := by decide +kernel
theorem dX10_frames_5 : decode (mC M_X10_frames) 5 = .ok (.aload_n 0, 1) := by decide +kernel
theorem dX10_frames_6 : decode (mC M_X10_frames) 6 = .ok (.getfield 103, 3) := by decide +kernel
theorem dX10_frames_9 : decode (mC M_X10_frames) 9 = .ok (.ireturn, 1) := by decide +kernel
theorem dX10_state_0 : decode (mC M_X10_state) 0 = .ok (.aload_n 0, 1) := by decide +kernel
theorem dX10_state_1 : decode (mC M_X10_state) 1 = .ok (.iload_n 1, 1) := by decide +kernel
theorem dX10_state_2 : decode (mC M_X10_state) 2 = .ok (.invokevirtual 160, 3) := by decide +kernel
theorem dX10_state_5 : decode (mC M_X10_state) 5 = .ok (.ifCond .eq 12, 3) := by decide +kernel
theorem dX10_state_8 : decode (mC M_X10_state) 8 = .ok (.aload_n 0, 1) := by decide +kernel
theorem dX10_state_9 : decode (mC M_X10_state) 9 = .ok (.getfield 45, 3) := by decide +kernel
theorem dX10_state_12 : decode (mC M_X10_state) 12 = .ok (.iload_n 1, 1) := by decide +kernel
theorem dX10_state_13 : decode (mC M_X10_state) 13 = .ok (.iaload, 1) := by decide +kernel
theorem dX10_state_14 : decode (mC M_X10_state) 14 = .ok (.goto 4, 3) := by decide +kernel
theorem dX10_state_17 : decode (mC M_X10_state) 17 = .ok (.iconst 0, 1) := by decide +kernel
theorem dX10_state_18 : decode (mC M_X10_state) 18 = .ok (.ireturn, 1) := by decide +kernel
theorem dX10_cell_0 : decode (mC M_X10_cell) 0 = .ok (.aload_n 0, 1) := by decide +kernel
theorem dX10_cell_1 : decode (mC M_X10_cell) 1 = .ok (.iload_n 1, 1) := by decide +kernel
theorem dX10_cell_2 : decode (mC M_X10_cell) 2 = .ok (.iconst 0, 1) := by decide +kernel
theorem dX10_cell_3 : decode (mC M_X10_cell) 3 = .ok (.aload_n 0, 1) := by decide +kernel
theorem dX10_cell_4 : decode (mC M_X10_cell) 4 = .ok (.getfield 103, 3) := by decide +kernel
theorem dX10_cell_7 : decode (mC M_X10_cell) 7 = .ok (.iconst 1, 1) := by decide +kernel
theorem dX10_cell_8 : decode (mC M_X10_cell) 8 = .ok (.isub, 1) := by decide +kernel
theorem dX10_cell_9 : decode (mC M_X10_cell) 9 = .ok (.invokestatic 75, 3) := by decide +kernel
theorem dX10_cell_12 : decode (mC M_X10_cell) 12 = .ok (.ifCond .eq 17, 3) := by decide +kernel
theorem dX10_cell_15 : decode (mC M_X10_cell) 15 = .ok (.iload_n 2, 1) := by decide +kernel
theorem dX10_cell_16 : decode (mC M_X10_cell) 16 = .ok (.iconst 0, 1) := by decide +kernel
theorem dX10_cell_17 : decode (mC M_X10_cell) 17 = .ok (.bipush 7, 2) := by decide +kernel
theorem dX10_cell_19 : decode (mC M_X10_cell) 19 = .ok (.invokestatic 75, 3) := by decide +kernel
theorem dX10_cell_22 : decode (mC M_X10_cell) 22 = .ok (.ifCond .eq 7, 3) := by decide +kernel
theorem dX10_cell_25 : decode (mC M_X10_cell) 25 = .ok (.iconst 0, 1) := by decide +kernel
theorem dX10_cell_26 : decode (mC M_X10_cell) 26 = .ok (.goto 4, 3) := by decide +kernel
theorem dX10_cell_29 : decode (mC M_X10_cell) 29 = .ok (.iconst 1, 1) := by decide +kernel
theorem dX10_cell_30 : decode (mC M_X10_cell) 30 = .ok (.putfield 72, 3) := by decide +kernel
theorem dX10_cell_33 : decode (mC M_X10_cell) 33 = .ok (.aload_n 0, 1) := by decide +kernel
theorem dX10_cell_34 : decode (mC M_X10_cell) 34 = .ok (.getfield 72, 3) := by decide +kernel
theorem dX10_cell_37 : decode (mC M_X10_cell) 37 = .ok (.ifCond .le 7, 3) := by decide +kernel
theorem dX10_cell_40 : decode (mC M_X10_cell) 40 = .ok (.iconst 0, 1) := by decide +kernel
theorem dX10_cell_41 : decode (mC M_X10_cell) 41 = .ok (.goto 14, 3) := by decide +kernel
theorem dX10_cell_44 : decode (mC M_X10_cell) 44 = .ok (.aload_n 0, 1) := by decide +kernel
theorem dX10_cell_45 : decode (mC M_X10_cell) 45 = .ok (.getfield 60, 3) := by decide +kernel
theorem dX10_cell_48 : decode (mC M_X10_cell) 48 = .ok (.bipush 8, 2) := by decide +kernel
theorem dX10_cell_50 : decode (mC M_X10_cell) 50 = .ok (.iload_n 1, 1) := by decide +kernel
theorem dX10_cell_51 : decode (mC M_X10_cell) 51 = .ok (.imul, 1) := by decide +kernel
theorem dX10_cell_52 : decode (mC M_X10_cell) 52 = .ok (.iload_n 2, 1) := by decide +kernel
theorem dX10_cell_53 : decode (mC M_X10_cell) 53 = .ok (.iadd, 1) := by decide +kernel
theorem dX10_cell_54 : decode (mC M_X10_cell) 54 = .ok (.iaload, 1) := by decide +kernel
theorem dX10_cell_55 : decode (mC M_X10_cell) 55 = .ok (.ireturn, 1) := by decide +kernel
theorem dX10_ballOn_0 : decode (mC M_X10_ballOn) 0 = .ok (.aload_n 0, 1) := by decide +kernel
theorem dX10_ballOn_1 : decode (mC M_X10_ballOn) 1 = .ok (.iload_n 1, 1) := by decide +kernel
theorem dX10_ballOn_2 : decode (mC M_X10_ballOn) 2 = .ok (.invokevirtual 160, 3) := by decide +kernel
theorem dX10_ballOn_5 : decode (mC M_X10_ballOn) 5 = .ok (.ifCond .eq 11, 3) := by decide +kernel
theorem dX10_ballOn_8 : decode (mC M_X10_ballOn) 8 = .ok (.aload_n 0, 1) := by decide +kernel
theorem dX10_ballOn_9 : decode (mC M_X10_ballOn) 9 = .ok (.iload_n 1, 1) := by decide +kernel
theorem dX10_ballOn_10 : decode (mC M_X10_ballOn) 10 = .ok (.invokevirtual 151, 3) := by decide +kernel
theorem dX10_ballOn_13 : decode (mC M_X10_ballOn) 13 = .ok (.goto 4, 3) := by decide +kernel
theorem dX10_ballOn_16 : decode (mC M_X10_ballOn) 16 = .ok (.iconst 0, 1) := by decide +kernel
theorem dX10_ballOn_17 : decode (mC M_X10_ballOn) 17 = .ok (.ireturn, 1) := by decide +kernel
theorem dX10_isFree_0 : decode (mC M_X10_isFree) 0 = .ok (.aload_n 0, 1) := by decide +kernel
theorem dX10_isFree_1 : decode (mC M_X10_isFree) 1 = .ok (.iload_n 1, 1) := by decide +kernel
theorem dX10_isFree_2 : decode (mC M_X10_isFree) 2 = .ok (.invokevirtual 160, 3) := by decide +kernel
theorem dX10_isFree_5 : decode (mC M_X10_isFree) 5 = .ok (.ifCond .eq 16, 3) := by decide +kernel
theorem dX10_isFree_8 : decode (mC M_X10_isFree) 8 = .ok (.aload_n 0, 1) := by decide +kernel
theorem dX10_isFree_9 : decode (mC M_X10_isFree) 9 = .ok (.getfield 54, 3) := by decide +kernel
theorem dX10_isFree_12 : decode (mC M_X10_isFree) 12 = .ok (.iload_n 1, 1) := by decide +kernel
theorem dX10_isFree_13 : decode (mC M_X10_isFree) 13 = .ok (.baload, 1) := by decide +kernel
theorem dX10_isFree_14 : decode (mC M_X10_isFree) 14 = .ok (.ifCond .eq 7, 3) := by decide +kernel
theorem dX10_isFree_17 : decode (mC M_X10_isFree) 17 = .ok (.iconst 1, 1) := by decide +kernel
theorem dX10_isFree_18 : decode (mC M_X10_isFree) 18 = .ok (.goto 4, 3) := by decide +kernel
theorem dX10_isFree_21 : decode (mC M_X10_isFree) 21 = .ok (.iconst 0, 1) := by decide +kernel
theorem dX10_isFree_22 : decode (mC M_X10_isFree) 22 = .ok (.ireturn, 1) := by decide +kernel
theorem dX10_turn_0 : decode (mC M_X10_turn) 0 = .ok (.aload_n 0, 1) := by decide +kernel
theorem dX10_turn_1 : decode (mC M_X10_turn) 1 = .ok (.iload_n 1, 1) := by decide +kernel
theorem dX10_turn_2 : decode (mC M_X10_turn) 2 = .ok (.invokevirtual 160, 3) := by decide +kernel
theorem dX10_turn_5 : decode (mC M_X10_turn) 5 = .ok (.ifCond .ne 7, 3) := by decide +kernel
theorem dX10_turn_8 : decode (mC M_X10_turn) 8 = .ok (.iconst 0, 1) := by decide +kernel
theorem dX10_turn_9 : decode (mC M_X10_turn) 9 = .ok (.goto 32, 3) := by decide +kernel
theorem dX10_turn_12 : decode (mC M_X10_turn) 12 = .ok (.aload_n 0, 1) := by decide +kernel
theorem dX10_turn_13 : decode (mC M_X10_turn) 13 = .ok (.getfield 45, 3) := by decide +kernel
theorem dX10_turn_16 : decode (mC M_X10_turn) 16 = .ok (.iload_n 1, 1) := by decide +kernel
theorem dX10_turn_17 : decode (mC M_X10_turn) 17 = .ok (.iaload, 1) := by decide +kernel
theorem dX10_turn_18 : decode (mC M_X10_turn) 18 = .ok (.iconst 2, 1) := by decide +kernel
theorem dX10_turn_19 : decode (mC M_X10_turn) 19 = .ok (.if_icmp .ne 7, 3) := by decide +kernel
theorem dX10_turn_22 : decode (mC M_X10_turn) 22 = .ok (.iconst (-1), 1) := by decide +kernel
theorem dX10_turn_23 : decode (mC M_X10_turn) 23 = .ok (.goto 18, 3) := by decide +kernel
theorem dX10_turn_26 : decode (mC M_X10_turn) 26 = .ok (.aload_n 0, 1) := by decide +kernel
theorem dX10_turn_27 : decode (mC M_X10_turn) 27 = .ok (.getfield 39, 3) := by decide +kernel
theorem dX10_turn_30 : decode (mC M_X10_turn) 30 = .ok (.iconst 2, 1) := by decide +kernel
theorem dX10_turn_31 : decode (mC M_X10_turn) 31 = .ok (.iload_n 1, 1) := by decide +kernel
theorem dX10_turn_32 : decode (mC M_X10_turn) 32 = .ok (.imul, 1) := by decide +kernel
theorem dX10_turn_33 : decode (mC M_X10_turn) 33 = .ok (.aload_n 0, 1) := by decide +kernel
theorem dX10_turn_34 : decode (mC M_X10_turn) 34 = .ok (.getfield 48, 3) := by decide +kernel
theorem dX10_turn_37 : decode (mC M_X10_turn) 37 = .ok (.iload_n 1, 1) := by decide +kernel
theorem dX10_turn_38 : decode (mC M_X10_turn) 38 = .ok (.iaload, 1) := by decide +kernel
theorem dX10_turn_39 : decode (mC M_X10_turn) 39 = .ok (.iadd, 1) := by decide +kernel
theorem dX10_turn_40 : decode (mC M_X10_turn) 40 = .ok (.iaload, 1) := by decide +kernel
theorem dX10_turn_41 : decode (mC M_X10_turn) 41 = .ok (.ireturn, 1) := by decide +kernel
theorem dX10_points_0 : decode (mC M_X10_points) 0 = .ok (.aload_n 0, 1) := by decide +kernel
theorem dX10_points_1 : decode (mC M_X10_points) 1 = .ok (.iload_n 1, 1) := by decide +kernel
theorem dX10_points_2 : decode (mC M_X10_points) 2 = .ok (.invokevirtual 160, 3) := by decide +kernel
theorem dX10_points_5 : decode (mC M_X10_points) 5 = .ok (.ifCond .eq 24, 3) := by decide +kernel
theorem dX10_points_8 : decode (mC M_X10_points) 8 = .ok (.aload_n 0, 1) := by decide +kernel
theorem dX10_points_9 : decode (mC M_X10_points) 9 = .ok (.getfield 51, 3) := by decide +kernel
theorem dX10_points_12 : decode (mC M_X10_points) 12 = .ok (.iconst 2, 1) := by decide +kernel
theorem dX10_points_13 : decode (mC M_X10_points) 13 = .ok (.iload_n 1, 1) := by decide +kernel
theorem dX10_points_14 : decode (mC M_X10_points) 14 = .ok (.imul, 1) := by decide +kernel
theorem dX10_points_15 : decode (mC M_X10_points) 15 = .ok (.iload_n 2, 1) := by decide +kernel
theorem dX10_points_16 : decode (mC M_X10_points) 16 = .ok (.ifCond .eq 7, 3) := by decide +kernel
theorem dX10_points_19 : decode (mC M_X10_points) 19 = .ok (.iconst 1, 1) := by decide +kernel
theorem dX10_points_20 : decode (mC M_X10_points) 20 = .ok (.goto 4, 3) := by decide +kernel
theorem dX10_points_23 : decode (mC M_X10_points) 23 = .ok (.iconst 0, 1) := by decide +kernel
theorem dX10_points_24 : decode (mC M_X10_points) 24 = .ok (.iadd, 1) := by decide +kernel
theorem dX10_points_25 : decode (mC M_X10_points) 25 = .ok (.iaload, 1) := by decide +kernel
theorem dX10_points_26 : decode (mC M_X10_points) 26 = .ok (.goto 4, 3) := by decide +kernel
theorem dX10_points_29 : decode (mC M_X10_points) 29 = .ok (.iconst 0, 1) := by decide +kernel
theorem dX10_points_30 : decode (mC M_X10_points) 30 = .ok (.ireturn, 1) := by decide +kernel
theorem dX10_winner_0 : decode (mC M_X10_winner) 0 = .ok (.aload_n 0, 1) := by decide +kernel
theorem dX10_winner_1 : decode (mC M_X10_winner) 1 = .ok (.iload_n 1, 1) := by decide +kernel
theorem dX10_winner_2 : decode (mC M_X10_winner) 2 = .ok (.invokevirtual 160, 3) := by decide +kernel
theorem dX10_winner_5 : decode (mC M_X10_winner) 5 = .ok (.ifCond .eq 12, 3) := by decide +kernel
theorem dX10_winner_8 : decode (mC M_X10_winner) 8 = .ok (.aload_n 0, 1) := by decide +kernel
theorem dX10_winner_9 : decode (mC M_X10_winner) 9 = .ok (.getfield 57, 3) := by decide +kernel
theorem dX10_winner_12 : decode (mC M_X10_winner) 12 = .ok (.iload_n 1, 1) := by decide +kernel
theorem dX10_winner_13 : decode (mC M_X10_winner) 13 = .ok (.iaload, 1) := by decide +kernel
theorem dX10_winner_14 : decode (mC M_X10_winner) 14 = .ok (.goto 4, 3) := by decide +kernel
theorem dX10_winner_17 : decode (mC M_X10_winner) 17 = .ok (.iconst 0, 1) := by decide +kernel
theorem dX10_winner_18 : decode (mC M_X10_winner) 18 = .ok (.ireturn, 1) := by decide +kernel
theorem dX10_meetings_0 : decode (mC M_X10_meetings) 0 = .ok (.aload_n 0, 1) := by decide +kernel
theorem dX10_meetings_1 : decode (mC M_X10_meetings) 1 = .ok (.iload_n 1, 1) := by decide +kernel
theorem dX10_meetings_2 : decode (mC M_X10_meetings) 2 = .ok (.invokevirtual 160, 3) := by decide +kernel
theorem dX10_meetings_5 : decode (mC M_X10_meetings) 5 = .ok (.ifCond .ne 5, 3) := by decide +kernel
theorem dX10_meetings_8 : decode (mC M_X10_meetings) 8 = .ok (.iconst 0, 1) := by decide +kernel
theorem dX10_meetings_9 : decode (mC M_X10_meetings) 9 = .ok (.ireturn, 1) := by decide +kernel
theorem dX10_meetings_10 : decode (mC M_X10_meetings) 10 = .ok (.aload_n 0, 1) := by decide +kernel
theorem dX10_meetings_11 : decode (mC M_X10_meetings) 11 = .ok (.iload_n 2, 1) := by decide +kernel
theorem dX10_meetings_12 : decode (mC M_X10_meetings) 12 = .ok (.iconst 0, 1) := by decide +kernel
theorem dX10_meetings_13 : decode (mC M_X10_meetings) 13 = .ok (.bipush 7, 2) := by decide +kernel
theorem dX10_meetings_15 : decode (mC M_X10_meetings) 15 = .ok (.invokestatic 75, 3) := by decide +kernel
theorem dX10_meetings_18 : decode (mC M_X10_meetings) 18 = .ok (.ifCond .eq 17, 3) := by decide +kernel
theorem dX10_meetings_21 : decode (mC M_X10_meetings) 21 = .ok (.iload_n 3, 1) := by decide +kernel
theorem dX10_meetings_22 : decode (mC M_X10_meetings) 22 = .ok (.iconst 1, 1) := by decide +kernel
theorem dX10_meetings_23 : decode (mC M_X10_meetings) 23 = .ok (.bipush 40, 2) := by decide +kernel
theorem dX10_meetings_25 : decode (mC M_X10_meetings) 25 = .ok (.invokestatic 75, 3) := by decide +kernel
theorem dX10_meetings_28 : decode (mC M_X10_meetings) 28 = .ok (.ifCond .eq 7, 3) := by decide +kernel
theorem dX10_meetings_31 : decode (mC M_X10_meetings) 31 = .ok (.iconst 0, 1) := by decide +kernel
theorem dX10_meetings_32 : decode (mC M_X10_meetings) 32 = .ok (.goto 4, 3) := by decide +kernel
theorem dX10_meetings_35 : decode (mC M_X10_meetings) 35 = .ok (.iconst 2, 1) := by decide +kernel
theorem dX10_meetings_36 : decode (mC M_X10_meetings) 36 = .ok (.putfield 72, 3) := by decide +kernel
theorem dX10_meetings_39 : decode (mC M_X10_meetings) 39 = .ok (.aload_n 0, 1) := by decide +kernel
theorem dX10_meetings_40 : decode (mC M_X10_meetings) 40 = .ok (.getfield 72, 3) := by decide +kernel
theorem dX10_meetings_43 : decode (mC M_X10_meetings) 43 = .ok (.ifCond .le 5, 3) := by decide +kernel
theorem dX10_meetings_46 : decode (mC M_X10_meetings) 46 = .ok (.iconst 0, 1) := by decide +kernel
theorem dX10_meetings_47 : decode (mC M_X10_meetings) 47 = .ok (.ireturn, 1) := by decide +kernel
theorem dX10_meetings_48 : decode (mC M_X10_meetings) 48 = .ok (.aload_n 0, 1) := by decide +kernel
theorem dX10_meetings_49 : decode (mC M_X10_meetings) 49 = .ok (.iload_n 1, 1) := by decide +kernel
theorem dX10_meetings_50 : decode (mC M_X10_meetings) 50 = .ok (.iload_n 2, 1) := by decide +kernel
theorem dX10_meetings_51 : decode (mC M_X10_meetings) 51 = .ok (.iload_n 3, 1) := by decide +kernel
theorem dX10_meetings_52 : decode (mC M_X10_meetings) 52 = .ok (.invokevirtual 167, 3) := by decide +kernel
theorem dX10_meetings_55 : decode (mC M_X10_meetings) 55 = .ok (.aload_n 0, 1) := by decide +kernel
theorem dX10_meetings_56 : decode (mC M_X10_meetings) 56 = .ok (.getfield 122, 3) := by decide +kernel
theorem dX10_meetings_59 : decode (mC M_X10_meetings) 59 = .ok (.ireturn, 1) := by decide +kernel
theorem dX10_contacts_0 : decode (mC M_X10_contacts) 0 = .ok (.aload_n 0, 1) := by decide +kernel
theorem dX10_contacts_1 : decode (mC M_X10_contacts) 1 = .ok (.iload_n 1, 1) := by decide +kernel
theorem dX10_contacts_2 : decode (mC M_X10_contacts) 2 = .ok (.iload_n 2, 1) := by decide +kernel
theorem dX10_contacts_3 : decode (mC M_X10_contacts) 3 = .ok (.iload_n 3, 1) := by decide +kernel
theorem dX10_contacts_4 : decode (mC M_X10_contacts) 4 = .ok (.invokevirtual 183, 3) := by decide +kernel
theorem dX10_contacts_7 : decode (mC M_X10_contacts) 7 = .ok (.ireturn, 1) := by decide +kernel
theorem dX10_contactsByPairs_0 : decode (mC M_X10_contactsByPairs) 0 = .ok (.aload_n 0, 1) := by decide +kernel
theorem dX10_contactsByPairs_1 : decode (mC M_X10_contactsByPairs) 1 = .ok (.iload_n 1, 1) := by decide +kernel
theorem dX10_contactsByPairs_2 : decode (mC M_X10_contactsByPairs) 2 = .ok (.iload_n 2, 1) := by decide +kernel
theorem dX10_contactsByPairs_3 : decode (mC M_X10_contactsByPairs) 3 = .ok (.iload_n 3, 1) := by decide +kernel
theorem dX10_contactsByPairs_4 : decode (mC M_X10_contactsByPairs) 4 = .ok (.invokevirtual 183, 3) := by decide +kernel
theorem dX10_contactsByPairs_7 : decode (mC M_X10_contactsByPairs) 7 = .ok (.ireturn, 1) := by decide +kernel
theorem dX10_winsOf_0 : decode (mC M_X10_winsOf) 0 = .ok (.iconst 0, 1) := by decide +kernel
theorem dX10_winsOf_1 : decode (mC M_X10_winsOf) 1 = .ok (.istore_n 2, 1) := by decide +kernel
theorem dX10_winsOf_2 : decode (mC M_X10_winsOf) 2 = .ok (.iconst 0, 1) := by decide +kernel
theorem dX10_winsOf_3 : decode (mC M_X10_winsOf) 3 = .ok (.istore_n 3, 1) := by decide +kernel
theorem dX10_winsOf_4 : decode (mC M_X10_winsOf) 4 = .ok (.iload_n 3, 1) := by decide +kernel
theorem dX10_winsOf_5 : decode (mC M_X10_winsOf) 5 = .ok (.aload_n 0, 1) := by decide +kernel
theorem dX10_winsOf_6 : decode (mC M_X10_winsOf) 6 = .ok (.getfield 103, 3) := by decide +kernel
theorem dX10_winsOf_9 : decode (mC M_X10_winsOf) 9 = .ok (.if_icmp .ge 36, 3) := by decide +kernel
theorem dX10_winsOf_12 : decode (mC M_X10_winsOf) 12 = .ok (.iload_n 2, 1) := by decide +kernel
theorem dX10_winsOf_13 : decode (mC M_X10_winsOf) 13 = .ok (.aload_n 0, 1) := by decide +kernel
theorem dX10_winsOf_14 : decode (mC M_X10_winsOf) 14 = .ok (.getfield 42, 3) := by decide +kernel
theorem dX10_winsOf_17 : decode (mC M_X10_winsOf) 17 = .ok (.iload_n 3, 1) := by decide +kernel
theorem dX10_winsOf_18 : decode (mC M_X10_winsOf) 18 = .ok (.baload, 1) := by decide +kernel
theorem dX10_winsOf_19 : decode (mC M_X10_winsOf) 19 = .ok (.ifCond .eq 17, 3) := by decide +kernel
theorem dX10_winsOf_22 : decode (mC M_X10_winsOf) 22 = .ok (.aload_n 0, 1) := by decide +kernel
theorem dX10_winsOf_23 : decode (mC M_X10_winsOf) 23 = .ok (.getfield 57, 3) := by decide +kernel
theorem dX10_winsOf_26 : decode (mC M_X10_winsOf) 26 = .ok (.iload_n 3, 1) := by decide +kernel
theorem dX10_winsOf_27 : decode (mC M_X10_winsOf) 27 = .ok (.iaload, 1) := by decide +kernel
theorem dX10_winsOf_28 : decode (mC M_X10_winsOf) 28 = .ok (.iload_n 1, 1) := by decide +kernel
theorem dX10_winsOf_29 : decode (mC M_X10_winsOf) 29 = .ok (.if_icmp .ne 7, 3) := by decide +kernel
theorem dX10_winsOf_32 : decode (mC M_X10_winsOf) 32 = .ok (.iconst 1, 1) := by decide +kernel
theorem dX10_winsOf_33 : decode (mC M_X10_winsOf) 33 = .ok (.goto 4, 3) := by decide +kernel
theorem dX10_winsOf_36 : decode (mC M_X10_winsOf) 36 = .ok (.iconst 0, 1) := by decide +kernel
theorem dX10_winsOf_37 : decode (mC M_X10_winsOf) 37 = .ok (.iadd, 1) := by decide +kernel
theorem dX10_winsOf_38 : decode (mC M_X10_winsOf) 38 = .ok (.istore_n 2, 1) := by decide +kernel
theorem dX10_winsOf_39 : decode (mC M_X10_winsOf) 39 = .ok (.iinc 3 1, 3) := by decide +kernel
theorem dX10_winsOf_42 : decode (mC M_X10_winsOf) 42 = .ok (.goto (-38), 3) := by decide +kernel
theorem dX10_winsOf_45 : decode (mC M_X10_winsOf) 45 = .ok (.iload_n 2, 1) := by decide +kernel
theorem dX10_winsOf_46 : decode (mC M_X10_winsOf) 46 = .ok (.ireturn, 1) := by decide +kernel
theorem dX10_wins_0 : decode (mC M_X10_wins) 0 = .ok (.aload_n 0, 1) := by decide +kernel
theorem dX10_wins_1 : decode (mC M_X10_wins) 1 = .ok (.iload_n 1, 1) := by decide +kernel
theorem dX10_wins_2 : decode (mC M_X10_wins) 2 = .ok (.invokestatic 83, 3) := by decide +kernel
theorem dX10_wins_5 : decode (mC M_X10_wins) 5 = .ok (.ifCond .eq 7, 3) := by decide +kernel
theorem dX10_wins_8 : decode (mC M_X10_wins) 8 = .ok (.iconst 0, 1) := by decide +kernel
theorem dX10_wins_9 : decode (mC M_X10_wins) 9 = .ok (.goto 4, 3) := by decide +kernel
theorem dX10_wins_12 : decode (mC M_X10_wins) 12 = .ok (.iconst 1, 1) := by decide +kernel
theorem dX10_wins_13 : decode (mC M_X10_wins) 13 = .ok (.putfield 72, 3) := by decide +kernel
theorem dX10_wins_16 : decode (mC M_X10_wins) 16 = .ok (.aload_n 0, 1) := by decide +kernel
theorem dX10_wins_17 : decode (mC M_X10_wins) 17 = .ok (.getfield 72, 3) := by decide +kernel
theorem dX10_wins_20 : decode (mC M_X10_wins) 20 = .ok (.ifCond .le 7, 3) := by decide +kernel
theorem dX10_wins_23 : decode (mC M_X10_wins) 23 = .ok (.iconst 0, 1) := by decide +kernel
theorem dX10_wins_24 : decode (mC M_X10_wins) 24 = .ok (.goto 8, 3) := by decide +kernel
theorem dX10_wins_27 : decode (mC M_X10_wins) 27 = .ok (.aload_n 0, 1) := by decide +kernel
theorem dX10_wins_28 : decode (mC M_X10_wins) 28 = .ok (.iload_n 1, 1) := by decide +kernel
theorem dX10_wins_29 : decode (mC M_X10_wins) 29 = .ok (.invokevirtual 187, 3) := by decide +kernel
theorem dX10_wins_32 : decode (mC M_X10_wins) 32 = .ok (.ireturn, 1) := by decide +kernel
theorem dX10_rank_0 : decode (mC M_X10_rank) 0 = .ok (.aload_n 0, 1) := by decide +kernel
theorem dX10_rank_1 : decode (mC M_X10_rank) 1 = .ok (.iload_n 1, 1) := by decide +kernel
theorem dX10_rank_2 : decode (mC M_X10_rank) 2 = .ok (.invokestatic 83, 3) := by decide +kernel
theorem dX10_rank_5 : decode (mC M_X10_rank) 5 = .ok (.ifCond .eq 7, 3) := by decide +kernel
theorem dX10_rank_8 : decode (mC M_X10_rank) 8 = .ok (.iconst 0, 1) := by decide +kernel
theorem dX10_rank_9 : decode (mC M_X10_rank) 9 = .ok (.goto 4, 3) := by decide +kernel
theorem dX10_rank_12 : decode (mC M_X10_rank) 12 = .ok (.iconst 1, 1) := by decide +kernel
theorem dX10_rank_13 : decode (mC M_X10_rank) 13 = .ok (.putfield 72, 3) := by decide +kernel
theorem dX10_rank_16 : decode (mC M_X10_rank) 16 = .ok (.iconst 0, 1) := by decide +kernel
theorem dX10_rank_17 : decode (mC M_X10_rank) 17 = .ok (.istore_n 2, 1) := by decide +kernel
theorem dX10_rank_18 : decode (mC M_X10_rank) 18 = .ok (.iconst 0, 1) := by decide +kernel
theorem dX10_rank_19 : decode (mC M_X10_rank) 19 = .ok (.istore_n 3, 1) := by decide +kernel
theorem dX10_rank_20 : decode (mC M_X10_rank) 20 = .ok (.iload_n 3, 1) := by decide +kernel
theorem dX10_rank_21 : decode (mC M_X10_rank) 21 = .ok (.bipush 8, 2) := by decide +kernel
theorem dX10_rank_23 : decode (mC M_X10_rank) 23 = .ok (.if_icmp .ge 37, 3) := by decide +kernel
theorem dX10_rank_26 : decode (mC M_X10_rank) 26 = .ok (.aload_n 0, 1) := by decide +kernel
theorem dX10_rank_27 : decode (mC M_X10_rank) 27 = .ok (.getfield 72, 3) := by decide +kernel
theorem dX10_rank_30 : decode (mC M_X10_rank) 30 = .ok (.ifCond .ne 30, 3) := by decide +kernel
theorem dX10_rank_33 : decode (mC M_X10_rank) 33 = .ok (.iload_n 2, 1) := by decide +kernel
theorem dX10_rank_34 : decode (mC M_X10_rank) 34 = .ok (.aload_n 0, 1) := by decide +kernel
theorem dX10_rank_35 : decode (mC M_X10_rank) 35 = .ok (.iload_n 3, 1) := by decide +kernel
theorem dX10_rank_36 : decode (mC M_X10_rank) 36 = .ok (.invokevirtual 187, 3) := by decide +kernel
theorem dX10_rank_39 : decode (mC M_X10_rank) 39 = .ok (.aload_n 0, 1) := by decide +kernel
theorem dX10_rank_40 : decode (mC M_X10_rank) 40 = .ok (.iload_n 1, 1) := by decide +kernel
theorem dX10_rank_41 : decode (mC M_X10_rank) 41 = .ok (.invokevirtual 187, 3) := by decide +kernel
theorem dX10_rank_44 : decode (mC M_X10_rank) 44 = .ok (.if_icmp .le 7, 3) := by decide +kernel
theorem dX10_rank_47 : decode (mC M_X10_rank) 47 = .ok (.iconst 1, 1) := by decide +kernel
theorem dX10_rank_48 : decode (mC M_X10_rank) 48 = .ok (.goto 4, 3) := by decide +kernel
theorem dX10_rank_51 : decode (mC M_X10_rank) 51 = .ok (.iconst 0, 1) := by decide +kernel
theorem dX10_rank_52 : decode (mC M_X10_rank) 52 = .ok (.iadd, 1) := by decide +kernel
theorem dX10_rank_53 : decode (mC M_X10_rank) 53 = .ok (.istore_n 2, 1) := by decide +kernel
theorem dX10_rank_54 : decode (mC M_X10_rank) 54 = .ok (.iinc 3 1, 3) := by decide +kernel
theorem dX10_rank_57 : decode (mC M_X10_rank) 57 = .ok (.goto (-37), 3) := by decide +kernel
theorem dX10_rank_60 : decode (mC M_X10_rank) 60 = .ok (.iload_n 2, 1) := by decide +kernel
theorem dX10_rank_61 : decode (mC M_X10_rank) 61 = .ok (.ireturn, 1) := by decide +kernel
theorem dX10_wear_0 : decode (mC M_X10_wear) 0 = .ok (.aload_n 0, 1) := by decide +kernel
theorem dX10_wear_1 : decode (mC M_X10_wear) 1 = .ok (.iload_n 1, 1) := by decide +kernel
theorem dX10_wear_2 : decode (mC M_X10_wear) 2 = .ok (.invokestatic 177, 3) := by decide +kernel
theorem dX10_wear_5 : decode (mC M_X10_wear) 5 = .ok (.ifCond .eq 7, 3) := by decide +kernel
theorem dX10_wear_8 : decode (mC M_X10_wear) 8 = .ok (.iconst 0, 1) := by decide +kernel
theorem dX10_wear_9 : decode (mC M_X10_wear) 9 = .ok (.goto 4, 3) := by decide +kernel
theorem dX10_wear_12 : decode (mC M_X10_wear) 12 = .ok (.iconst 1, 1) := by decide +kernel
theorem dX10_wear_13 : decode (mC M_X10_wear) 13 = .ok (.putfield 72, 3) := by decide +kernel
theorem dX10_wear_16 : decode (mC M_X10_wear) 16 = .ok (.aload_n 0, 1) := by decide +kernel
theorem dX10_wear_17 : decode (mC M_X10_wear) 17 = .ok (.getfield 72, 3) := by decide +kernel
theorem dX10_wear_20 : decode (mC M_X10_wear) 20 = .ok (.ifCond .le 7, 3) := by decide +kernel
theorem dX10_wear_23 : decode (mC M_X10_wear) 23 = .ok (.iconst 0, 1) := by decide +kernel
theorem dX10_wear_24 : decode (mC M_X10_wear) 24 = .ok (.goto 9, 3) := by decide +kernel
theorem dX10_wear_27 : decode (mC M_X10_wear) 27 = .ok (.aload_n 0, 1) := by decide +kernel
theorem dX10_wear_28 : decode (mC M_X10_wear) 28 = .ok (.getfield 33, 3) := by decide +kernel
theorem dX10_wear_31 : decode (mC M_X10_wear) 31 = .ok (.iload_n 1, 1) := by decide +kernel
theorem dX10_wear_32 : decode (mC M_X10_wear) 32 = .ok (.iaload, 1) := by decide +kernel
theorem dX10_wear_33 : decode (mC M_X10_wear) 33 = .ok (.ireturn, 1) := by decide +kernel
theorem dX10_cueOf_0 : decode (mC M_X10_cueOf) 0 = .ok (.aload_n 0, 1) := by decide +kernel
theorem dX10_cueOf_1 : decode (mC M_X10_cueOf) 1 = .ok (.iload_n 1, 1) := by decide +kernel
theorem dX10_cueOf_2 : decode (mC M_X10_cueOf) 2 = .ok (.invokestatic 83, 3) := by decide +kernel
theorem dX10_cueOf_5 : decode (mC M_X10_cueOf) 5 = .ok (.ifCond .eq 7, 3) := by decide +kernel
theorem dX10_cueOf_8 : decode (mC M_X10_cueOf) 8 = .ok (.iconst 0, 1) := by decide +kernel
theorem dX10_cueOf_9 : decode (mC M_X10_cueOf) 9 = .ok (.goto 4, 3) := by decide +kernel
theorem dX10_cueOf_12 : decode (mC M_X10_cueOf) 12 = .ok (.iconst 1, 1) := by decide +kernel
theorem dX10_cueOf_13 : decode (mC M_X10_cueOf) 13 = .ok (.putfield 72, 3) := by decide +kernel
theorem dX10_cueOf_16 : decode (mC M_X10_cueOf) 16 = .ok (.aload_n 0, 1) := by decide +kernel
theorem dX10_cueOf_17 : decode (mC M_X10_cueOf) 17 = .ok (.getfield 72, 3) := by decide +kernel
theorem dX10_cueOf_20 : decode (mC M_X10_cueOf) 20 = .ok (.ifCond .le 7, 3) := by decide +kernel
theorem dX10_cueOf_23 : decode (mC M_X10_cueOf) 23 = .ok (.iconst 0, 1) := by decide +kernel
theorem dX10_cueOf_24 : decode (mC M_X10_cueOf) 24 = .ok (.goto 8, 3) := by decide +kernel
theorem dX10_cueOf_27 : decode (mC M_X10_cueOf) 27 = .ok (.aload_n 0, 1) := by decide +kernel
theorem dX10_cueOf_28 : decode (mC M_X10_cueOf) 28 = .ok (.iload_n 1, 1) := by decide +kernel
theorem dX10_cueOf_29 : decode (mC M_X10_cueOf) 29 = .ok (.invokevirtual 144, 3) := by decide +kernel
theorem dX10_cueOf_32 : decode (mC M_X10_cueOf) 32 = .ok (.ireturn, 1) := by decide +kernel
theorem dX10_force_0 : decode (mC M_X10_force) 0 = .ok (.aload_n 0, 1) := by decide +kernel
theorem dX10_force_1 : decode (mC M_X10_force) 1 = .ok (.iload_n 1, 1) := by decide +kernel
theorem dX10_force_2 : decode (mC M_X10_force) 2 = .ok (.invokestatic 83, 3) := by decide +kernel
theorem dX10_force_5 : decode (mC M_X10_force) 5 = .ok (.ifCond .ne 7, 3) := by decide +kernel
theorem dX10_force_8 : decode (mC M_X10_force) 8 = .ok (.iconst 1, 1) := by decide +kernel
theorem dX10_force_9 : decode (mC M_X10_force) 9 = .ok (.goto 18, 3) := by decide +kernel
theorem dX10_force_12 : decode (mC M_X10_force) 12 = .ok (.iload_n 2, 1) := by decide +kernel
theorem dX10_force_13 : decode (mC M_X10_force) 13 = .ok (.iconst 1, 1) := by decide +kernel
theorem dX10_force_14 : decode (mC M_X10_force) 14 = .ok (.bipush 40, 2) := by decide +kernel
theorem dX10_force_16 : decode (mC M_X10_force) 16 = .ok (.invokestatic 75, 3) := by decide +kernel
theorem dX10_force_19 : decode (mC M_X10_force) 19 = .ok (.ifCond .eq 7, 3) := by decide +kernel
theorem dX10_force_22 : decode (mC M_X10_force) 22 = .ok (.iconst 0, 1) := by decide +kernel
theorem dX10_force_23 : decode (mC M_X10_force) 23 = .ok (.goto 4, 3) := by decide +kernel
theorem dX10_force_26 : decode (mC M_X10_force) 26 = .ok (.iconst 2, 1) := by decide +kernel
theorem dX10_force_27 : decode (mC M_X10_force) 27 = .ok (.putfield 72, 3) := by decide +kernel
theorem dX10_force_30 : decode (mC M_X10_force) 30 = .ok (.aload_n 0, 1) := by decide +kernel
theorem dX10_force_31 : decode (mC M_X10_force) 31 = .ok (.getfield 72, 3) := by decide +kernel
theorem dX10_force_34 : decode (mC M_X10_force) 34 = .ok (.ifCond .le 7, 3) := by decide +kernel
theorem dX10_force_37 : decode (mC M_X10_force) 37 = .ok (.iconst 0, 1) := by decide +kernel
theorem dX10_force_38 : decode (mC M_X10_force) 38 = .ok (.goto 9, 3) := by decide +kernel
theorem dX10_force_41 : decode (mC M_X10_force) 41 = .ok (.aload_n 0, 1) := by decide +kernel
theorem dX10_force_42 : decode (mC M_X10_force) 42 = .ok (.iload_n 1, 1) := by decide +kernel
theorem dX10_force_43 : decode (mC M_X10_force) 43 = .ok (.iload_n 2, 1) := by decide +kernel
theorem dX10_force_44 : decode (mC M_X10_force) 44 = .ok (.invokevirtual 163, 3) := by decide +kernel
theorem dX10_force_47 : decode (mC M_X10_force) 47 = .ok (.ireturn, 1) := by decide +kernel
theorem dL_setPrice_0 : decode (mC M_L_setPrice) 0 = .ok (.aload_n 2, 1) := by decide +kernel
theorem dL_setPrice_1 : decode (mC M_L_setPrice) 1 = .ok (.iconst 0, 1) := by decide +kernel
theorem dL_setPrice_2 : decode (mC M_L_setPrice) 2 = .ok (.aload_n 0, 1) := by decide +kernel
theorem dL_setPrice_3 : decode (mC M_L_setPrice) 3 = .ok (.iload_n 1, 1) := by decide +kernel
theorem dL_setPrice_4 : decode (mC M_L_setPrice) 4 = .ok (.invokevirtual 7, 3) := by decide +kernel
theorem dL_setPrice_7 : decode (mC M_L_setPrice) 7 = .ok (.i2l, 1) := by decide +kernel
theorem dL_setPrice_8 : decode (mC M_L_setPrice) 8 = .ok (.lastore, 1) := by decide +kernel
theorem dL_setPrice_9 : decode (mC M_L_setPrice) 9 = .ok (.goto 6, 3) := by decide +kernel
theorem dL_setPrice_12 : decode (mC M_L_setPrice) 12 = .ok (.astore_n 3, 1) := by decide +kernel
theorem dL_setPrice_13 : decode (mC M_L_setPrice) 13 = .ok (.iconst 1, 1) := by decide +kernel
theorem dL_setPrice_14 : decode (mC M_L_setPrice) 14 = .ok (.ireturn, 1) := by decide +kernel
theorem dL_setPrice_15 : decode (mC M_L_setPrice) 15 = .ok (.iconst 0, 1) := by decide +kernel
theorem dL_setPrice_16 : decode (mC M_L_setPrice) 16 = .ok (.ireturn, 1) := by decide +kernel
theorem dL_rent_0 : decode (mC M_L_rent) 0 = .ok (.aload_n 3, 1) := by decide +kernel
theorem dL_rent_1 : decode (mC M_L_rent) 1 = .ok (.iconst 0, 1) := by decide +kernel
theorem dL_rent_2 : decode (mC M_L_rent) 2 = .ok (.aload_n 0, 1) := by decide +kernel
theorem dL_rent_3 : decode (mC M_L_rent) 3 = .ok (.iload_n 1, 1) := by decide +kernel
theorem dL_rent_4 : decode (mC M_L_rent) 4 = .ok (.iload_n 2, 1) := by decide +kernel
theorem dL_rent_5 : decode (mC M_L_rent) 5 = .ok (.invokevirtual 15, 3) := by decide +kernel
theorem dL_rent_8 : decode (mC M_L_rent) 8 = .ok (.i2l, 1) := by decide +kernel
theorem dL_rent_9 : decode (mC M_L_rent) 9 = .ok (.lastore, 1) := by decide +kernel
theorem dL_rent_10 : decode (mC M_L_rent) 10 = .ok (.goto 11, 3) := by decide +kernel
theorem dL_rent_13 : decode (mC M_L_rent) 13 = .ok (.astore 4, 2) := by decide +kernel
theorem dL_rent_15 : decode (mC M_L_rent) 15 = .ok (.iconst 1, 1) := by decide +kernel
theorem dL_rent_16 : decode (mC M_L_rent) 16 = .ok (.ireturn, 1) := by decide +kernel
theorem dL_rent_17 : decode (mC M_L_rent) 17 = .ok (.astore 4, 2) := by decide +kernel
theorem dL_rent_19 : decode (mC M_L_rent) 19 = .ok (.iconst 2, 1) := by decide +kernel
theorem dL_rent_20 : decode (mC M_L_rent) 20 = .ok (.ireturn, 1) := by decide +kernel
theorem dL_rent_21 : decode (mC M_L_rent) 21 = .ok (.iconst 0, 1) := by decide +kernel
theorem dL_rent_22 : decode (mC M_L_rent) 22 = .ok (.ireturn, 1) := by decide +kernel
theorem dL_end_0 : decode (mC M_L_end) 0 = .ok (.aload_n 2, 1) := by decide +kernel
theorem dL_end_1 : decode (mC M_L_end) 1 = .ok (.iconst 0, 1) := by decide +kernel
theorem dL_end_2 : decode (mC M_L_end) 2 = .ok (.aload_n 0, 1) := by decide +kernel
theorem dL_end_3 : decode (mC M_L_end) 3 = .ok (.iload_n 1, 1) := by decide +kernel
theorem dL_end_4 : decode (mC M_L_end) 4 = .ok (.invokevirtual 23, 3) := by decide +kernel
theorem dL_end_7 : decode (mC M_L_end) 7 = .ok (.i2l, 1) := by decide +kernel
theorem dL_end_8 : decode (mC M_L_end) 8 = .ok (.lastore, 1) := by decide +kernel
theorem dL_end_9 : decode (mC M_L_end) 9 = .ok (.goto 9, 3) := by decide +kernel
theorem dL_end_12 : decode (mC M_L_end) 12 = .ok (.astore_n 3, 1) := by decide +kernel
theorem dL_end_13 : decode (mC M_L_end) 13 = .ok (.iconst 1, 1) := by decide +kernel
theorem dL_end_14 : decode (mC M_L_end) 14 = .ok (.ireturn, 1) := by decide +kernel
theorem dL_end_15 : decode (mC M_L_end) 15 = .ok (.astore_n 3, 1) := by decide +kernel
theorem dL_end_16 : decode (mC M_L_end) 16 = .ok (.iconst 2, 1) := by decide +kernel
theorem dL_end_17 : decode (mC M_L_end) 17 = .ok (.ireturn, 1) := by decide +kernel
theorem dL_end_18 : decode (mC M_L_end) 18 = .ok (.iconst 0, 1) := by decide +kernel
theorem dL_end_19 : decode (mC M_L_end) 19 = .ok (.ireturn, 1) := by decide +kernel
theorem dL_tear_0 : decode (mC M_L_tear) 0 = .ok (.aload_n 2, 1) := by decide +kernel
theorem dL_tear_1 : decode (mC M_L_tear) 1 = .ok (.iconst 0, 1) := by decide +kernel
theorem dL_tear_2 : decode (mC M_L_tear) 2 = .ok (.aload_n 0, 1) := by decide +kernel
theorem dL_tear_3 : decode (mC M_L_tear) 3 = .ok (.iload_n 1, 1) := by decide +kernel
theorem dL_tear_4 : decode (mC M_L_tear) 4 = .ok (.invokevirtual 26, 3) := by decide +kernel
theorem dL_tear_7 : decode (mC M_L_tear) 7 = .ok (.i2l, 1) := by decide +kernel
theorem dL_tear_8 : decode (mC M_L_tear) 8 = .ok (.lastore, 1) := by decide +kernel
theorem dL_tear_9 : decode (mC M_L_tear) 9 = .ok (.goto 9, 3) := by decide +kernel
theorem dL_tear_12 : decode (mC M_L_tear) 12 = .ok (.astore_n 3, 1) := by decide +kernel
theorem dL_tear_13 : decode (mC M_L_tear) 13 = .ok (.iconst 1, 1) := by decide +kernel
theorem dL_tear_14 : decode (mC M_L_tear) 14 = .ok (.ireturn, 1) := by decide +kernel
theorem dL_tear_15 : decode (mC M_L_tear) 15 = .ok (.astore_n 3, 1) := by decide +kernel
theorem dL_tear_16 : decode (mC M_L_tear) 16 = .ok (.iconst 2, 1) := by decide +kernel
theorem dL_tear_17 : decode (mC M_L_tear) 17 = .ok (.ireturn, 1) := by decide +kernel
theorem dL_tear_18 : decode (mC M_L_tear) 18 = .ok (.iconst 0, 1) := by decide +kernel
theorem dL_tear_19 : decode (mC M_L_tear) 19 = .ok (.ireturn, 1) := by decide +kernel
theorem dL_mend_0 : decode (mC M_L_mend) 0 = .ok (.aload_n 2, 1) := by decide +kernel
theorem dL_mend_1 : decode (mC M_L_mend) 1 = .ok (.iconst 0, 1) := by decide +kernel
theorem dL_mend_2 : decode (mC M_L_mend) 2 = .ok (.aload_n 0, 1) := by decide +kernel
theorem dL_mend_3 : decode (mC M_L_mend) 3 = .ok (.iload_n 1, 1) := by decide +kernel
theorem dL_mend_4 : decode (mC M_L_mend) 4 = .ok (.invokevirtual 29, 3) := by decide +kernel
theorem dL_mend_7 : decode (mC M_L_mend) 7 = .ok (.i2l, 1) := by decide +kernel
theorem dL_mend_8 : decode (mC M_L_mend) 8 = .ok (.lastore, 1) := by decide +kernel
theorem dL_mend_9 : decode (mC M_L_mend) 9 = .ok (.goto 9, 3) := by decide +kernel
theorem dL_mend_12 : decode (mC M_L_mend) 12 = .ok (.astore_n 3, 1) := by decide +kernel
theorem dL_mend_13 : decode (mC M_L_mend) 13 = .ok (.iconst 1, 1) := by decide +kernel
theorem dL_mend_14 : decode (mC M_L_mend) 14 = .ok (.ireturn, 1) := by decide +kernel
theorem dL_mend_15 : decode (mC M_L_mend) 15 = .ok (.astore_n 3, 1) := by decide +kernel
theorem dL_mend_16 : decode (mC M_L_mend) 16 = .ok (.iconst 2, 1) := by decide +kernel
theorem dL_mend_17 : decode (mC M_L_mend) 17 = .ok (.ireturn, 1) := by decide +kernel
theorem dL_mend_18 : decode (mC M_L_mend) 18 = .ok (.iconst 0, 1) := by decide +kernel
theorem dL_mend_19 : decode (mC M_L_mend) 19 = .ok (.ireturn, 1) := by decide +kernel
theorem dL_pass_0 : decode (mC M_L_pass) 0 = .ok (.aload_n 2, 1) := by decide +kernel
theorem dL_pass_1 : decode (mC M_L_pass) 1 = .ok (.iconst 0, 1) := by decide +kernel
theorem dL_pass_2 : decode (mC M_L_pass) 2 = .ok (.aload_n 0, 1) := by decide +kernel
theorem dL_pass_3 : decode (mC M_L_pass) 3 = .ok (.iload_n 1, 1) := by decide +kernel
theorem dL_pass_4 : decode (mC M_L_pass) 4 = .ok (.invokevirtual 32, 3) := by decide +kernel
theorem dL_pass_7 : decode (mC M_L_pass) 7 = .ok (.i2l, 1) := by decide +kernel
theorem dL_pass_8 : decode (mC M_L_pass) 8 = .ok (.lastore, 1) := by decide +kernel
theorem dL_pass_9 : decode (mC M_L_pass) 9 = .ok (.goto 9, 3) := by decide +kernel
theorem dL_pass_12 : decode (mC M_L_pass) 12 = .ok (.astore_n 3, 1) := by decide +kernel
theorem dL_pass_13 : decode (mC M_L_pass) 13 = .ok (.iconst 1, 1) := by decide +kernel
theorem dL_pass_14 : decode (mC M_L_pass) 14 = .ok (.ireturn, 1) := by decide +kernel
theorem dL_pass_15 : decode (mC M_L_pass) 15 = .ok (.astore_n 3, 1) := by decide +kernel
theorem dL_pass_16 : decode (mC M_L_pass) 16 = .ok (.iconst 2, 1) := by decide +kernel
theorem dL_pass_17 : decode (mC M_L_pass) 17 = .ok (.ireturn, 1) := by decide +kernel
theorem dL_pass_18 : decode (mC M_L_pass) 18 = .ok (.iconst 0, 1) := by decide +kernel
theorem dL_pass_19 : decode (mC M_L_pass) 19 = .ok (.ireturn, 1) := by decide +kernel
theorem dL_begin_0 : decode (mC M_L_begin) 0 = .ok (.aload 5, 2) := by decide +kernel
theorem dL_begin_2 : decode (mC M_L_begin) 2 = .ok (.iconst 0, 1) := by decide +kernel
theorem dL_begin_3 : decode (mC M_L_begin) 3 = .ok (.aload_n 0, 1) := by decide +kernel
theorem dL_begin_4 : decode (mC M_L_begin) 4 = .ok (.iload_n 1, 1) := by decide +kernel
theorem dL_begin_5 : decode (mC M_L_begin) 5 = .ok (.iload_n 2, 1) := by decide +kernel
theorem dL_begin_6 : decode (mC M_L_begin) 6 = .ok (.iload_n 3, 1) := by decide +kernel
theorem dL_begin_7 : decode (mC M_L_begin) 7 = .ok (.iload 4, 2) := by decide +kernel
theorem dL_begin_9 : decode (mC M_L_begin) 9 = .ok (.invokevirtual 35, 3) := by decide +kernel
theorem dL_begin_12 : decode (mC M_L_begin) 12 = .ok (.i2l, 1) := by decide +kernel
theorem dL_begin_13 : decode (mC M_L_begin) 13 = .ok (.lastore, 1) := by decide +kernel
theorem dL_begin_14 : decode (mC M_L_begin) 14 = .ok (.goto 15, 3) := by decide +kernel
theorem dL_begin_17 : decode (mC M_L_begin) 17 = .ok (.astore 6, 2) := by decide +kernel
theorem dL_begin_19 : decode (mC M_L_begin) 19 = .ok (.iconst 1, 1) := by decide +kernel
theorem dL_begin_20 : decode (mC M_L_begin) 20 = .ok (.ireturn, 1) := by decide +kernel
theorem dL_begin_21 : decode (mC M_L_begin) 21 = .ok (.astore 6, 2) := by decide +kernel
theorem dL_begin_23 : decode (mC M_L_begin) 23 = .ok (.iconst 2, 1) := by decide +kernel
theorem dL_begin_24 : decode (mC M_L_begin) 24 = .ok (.ireturn, 1) := by decide +kernel
theorem dL_begin_25 : decode (mC M_L_begin) 25 = .ok (.astore 6, 2) := by decide +kernel
theorem dL_begin_27 : decode (mC M_L_begin) 27 = .ok (.iconst 3, 1) := by decide +kernel
theorem dL_begin_28 : decode (mC M_L_begin) 28 = .ok (.ireturn, 1) := by decide +kernel
theorem dL_begin_29 : decode (mC M_L_begin) 29 = .ok (.iconst 0, 1) := by decide +kernel
theorem dL_begin_30 : decode (mC M_L_begin) 30 = .ok (.ireturn, 1) := by decide +kernel
theorem dL_resume_0 : decode (mC M_L_resume) 0 = .ok (.aload_n 3, 1) := by decide +kernel
theorem dL_resume_1 : decode (mC M_L_resume) 1 = .ok (.iconst 0, 1) := by decide +kernel
theorem dL_resume_2 : decode (mC M_L_resume) 2 = .ok (.aload_n 0, 1) := by decide +kernel
theorem dL_resume_3 : decode (mC M_L_resume) 3 = .ok (.iload_n 1, 1) := by decide +kernel
theorem dL_resume_4 : decode (mC M_L_resume) 4 = .ok (.iload_n 2, 1) := by decide +kernel
theorem dL_resume_5 : decode (mC M_L_resume) 5 = .ok (.invokevirtual 39, 3) := by decide +kernel
theorem dL_resume_8 : decode (mC M_L_resume) 8 = .ok (.i2l, 1) := by decide +kernel
theorem dL_resume_9 : decode (mC M_L_resume) 9 = .ok (.lastore, 1) := by decide +kernel
theorem dL_resume_10 : decode (mC M_L_resume) 10 = .ok (.goto 11, 3) := by decide +kernel
theorem dL_resume_13 : decode (mC M_L_resume) 13 = .ok (.astore 4, 2) := by decide +kernel
theorem dL_resume_15 : decode (mC M_L_resume) 15 = .ok (.iconst 1, 1) := by decide +kernel
theorem dL_resume_16 : decode (mC M_L_resume) 16 = .ok (.ireturn, 1) := by decide +kernel
theorem dL_resume_17 : decode (mC M_L_resume) 17 = .ok (.astore 4, 2) := by decide +kernel
theorem dL_resume_19 : decode (mC M_L_resume) 19 = .ok (.iconst 2, 1) := by decide +kernel
theorem dL_resume_20 : decode (mC M_L_resume) 20 = .ok (.ireturn, 1) := by decide +kernel
theorem dL_resume_21 : decode (mC M_L_resume) 21 = .ok (.iconst 0, 1) := by decide +kernel
theorem dL_resume_22 : decode (mC M_L_resume) 22 = .ok (.ireturn, 1) := by decide +kernel
theorem dL_shoot_0 : decode (mC M_L_shoot) 0 = .ok (.aload 4, 2) := by decide +kernel
theorem dL_shoot_2 : decode (mC M_L_shoot) 2 = .ok (.iconst 0, 1) := by decide +kernel
theorem dL_shoot_3 : decode (mC M_L_shoot) 3 = .ok (.aload_n 0, 1) := by decide +kernel
theorem dL_shoot_4 : decode (mC M_L_shoot) 4 = .ok (.iload_n 1, 1) := by decide +kernel
theorem dL_shoot_5 : decode (mC M_L_shoot) 5 = .ok (.iload_n 2, 1) := by decide +kernel
theorem dL_shoot_6 : decode (mC M_L_shoot) 6 = .ok (.iload_n 3, 1) := by decide +kernel
theorem dL_shoot_7 : decode (mC M_L_shoot) 7 = .ok (.invokevirtual 42, 3) := by decide +kernel
theorem dL_shoot_10 : decode (mC M_L_shoot) 10 = .ok (.i2l, 1) := by decide +kernel
theorem dL_shoot_11 : decode (mC M_L_shoot) 11 = .ok (.lastore, 1) := by decide +kernel
theorem dL_shoot_12 : decode (mC M_L_shoot) 12 = .ok (.goto 15, 3) := by decide +kernel
theorem dL_shoot_15 : decode (mC M_L_shoot) 15 = .ok (.astore 5, 2) := by decide +kernel
theorem dL_shoot_17 : decode (mC M_L_shoot) 17 = .ok (.iconst 1, 1) := by decide +kernel
theorem dL_shoot_18 : decode (mC M_L_shoot) 18 = .ok (.ireturn, 1) := by decide +kernel
theorem dL_shoot_19 : decode (mC M_L_shoot) 19 = .ok (.astore 5, 2) := by decide +kernel
theorem dL_shoot_21 : decode (mC M_L_shoot) 21 = .ok (.iconst 2, 1) := by decide +kernel
theorem dL_shoot_22 : decode (mC M_L_shoot) 22 = .ok (.ireturn, 1) := by decide +kernel
theorem dL_shoot_23 : decode (mC M_L_shoot) 23 = .ok (.astore 5, 2) := by decide +kernel
theorem dL_shoot_25 : decode (mC M_L_shoot) 25 = .ok (.iconst 3, 1) := by decide +kernel
theorem dL_shoot_26 : decode (mC M_L_shoot) 26 = .ok (.ireturn, 1) := by decide +kernel
theorem dL_shoot_27 : decode (mC M_L_shoot) 27 = .ok (.iconst 0, 1) := by decide +kernel
theorem dL_shoot_28 : decode (mC M_L_shoot) 28 = .ok (.ireturn, 1) := by decide +kernel
theorem dL_lend_0 : decode (mC M_L_lend) 0 = .ok (.aload_n 3, 1) := by decide +kernel
theorem dL_lend_1 : decode (mC M_L_lend) 1 = .ok (.iconst 0, 1) := by decide +kernel
theorem dL_lend_2 : decode (mC M_L_lend) 2 = .ok (.aload_n 0, 1) := by decide +kernel
theorem dL_lend_3 : decode (mC M_L_lend) 3 = .ok (.iload_n 1, 1) := by decide +kernel
theorem dL_lend_4 : decode (mC M_L_lend) 4 = .ok (.iload_n 2, 1) := by decide +kernel
theorem dL_lend_5 : decode (mC M_L_lend) 5 = .ok (.invokevirtual 46, 3) := by decide +kernel
theorem dL_lend_8 : decode (mC M_L_lend) 8 = .ok (.i2l, 1) := by decide +kernel
theorem dL_lend_9 : decode (mC M_L_lend) 9 = .ok (.lastore, 1) := by decide +kernel
theorem dL_lend_10 : decode (mC M_L_lend) 10 = .ok (.goto 11, 3) := by decide +kernel
theorem dL_lend_13 : decode (mC M_L_lend) 13 = .ok (.astore 4, 2) := by decide +kernel
theorem dL_lend_15 : decode (mC M_L_lend) 15 = .ok (.iconst 1, 1) := by decide +kernel
theorem dL_lend_16 : decode (mC M_L_lend) 16 = .ok (.ireturn, 1) := by decide +kernel
theorem dL_lend_17 : decode (mC M_L_lend) 17 = .ok (.astore 4, 2) := by decide +kernel
theorem dL_lend_19 : decode (mC M_L_lend) 19 = .ok (.iconst 2, 1) := by decide +kernel
theorem dL_lend_20 : decode (mC M_L_lend) 20 = .ok (.ireturn, 1) := by decide +kernel
theorem dL_lend_21 : decode (mC M_L_lend) 21 = .ok (.iconst 0, 1) := by decide +kernel
theorem dL_lend_22 : decode (mC M_L_lend) 22 = .ok (.ireturn, 1) := by decide +kernel
theorem dL_takeBack_0 : decode (mC M_L_takeBack) 0 = .ok (.aload_n 2, 1) := by decide +kernel
theorem dL_takeBack_1 : decode (mC M_L_takeBack) 1 = .ok (.iconst 0, 1) := by decide +kernel
theorem dL_takeBack_2 : decode (mC M_L_takeBack) 2 = .ok (.aload_n 0, 1) := by decide +kernel
theorem dL_takeBack_3 : decode (mC M_L_takeBack) 3 = .ok (.iload_n 1, 1) := by decide +kernel
theorem dL_takeBack_4 : decode (mC M_L_takeBack) 4 = .ok (.invokevirtual 49, 3) := by decide +kernel
theorem dL_takeBack_7 : decode (mC M_L_takeBack) 7 = .ok (.i2l, 1) := by decide +kernel
theorem dL_takeBack_8 : decode (mC M_L_takeBack) 8 = .ok (.lastore, 1) := by decide +kernel
theorem dL_takeBack_9 : decode (mC M_L_takeBack) 9 = .ok (.goto 9, 3) := by decide +kernel
theorem dL_takeBack_12 : decode (mC M_L_takeBack) 12 = .ok (.astore_n 3, 1) := by decide +kernel
theorem dL_takeBack_13 : decode (mC M_L_takeBack) 13 = .ok (.iconst 1, 1) := by decide +kernel
theorem dL_takeBack_14 : decode (mC M_L_takeBack) 14 = .ok (.ireturn, 1) := by decide +kernel
theorem dL_takeBack_15 : decode (mC M_L_takeBack) 15 = .ok (.astore_n 3, 1) := by decide +kernel
theorem dL_takeBack_16 : decode (mC M_L_takeBack) 16 = .ok (.iconst 2, 1) := by decide +kernel
theorem dL_takeBack_17 : decode (mC M_L_takeBack) 17 = .ok (.ireturn, 1) := by decide +kernel
theorem dL_takeBack_18 : decode (mC M_L_takeBack) 18 = .ok (.iconst 0, 1) := by decide +kernel
theorem dL_takeBack_19 : decode (mC M_L_takeBack) 19 = .ok (.ireturn, 1) := by decide +kernel
theorem dL_tip_0 : decode (mC M_L_tip) 0 = .ok (.aload_n 2, 1) := by decide +kernel
theorem dL_tip_1 : decode (mC M_L_tip) 1 = .ok (.iconst 0, 1) := by decide +kernel
theorem dL_tip_2 : decode (mC M_L_tip) 2 = .ok (.aload_n 0, 1) := by decide +kernel
theorem dL_tip_3 : decode (mC M_L_tip) 3 = .ok (.iload_n 1, 1) := by decide +kernel
theorem dL_tip_4 : decode (mC M_L_tip) 4 = .ok (.invokevirtual 52, 3) := by decide +kernel
theorem dL_tip_7 : decode (mC M_L_tip) 7 = .ok (.i2l, 1) := by decide +kernel
theorem dL_tip_8 : decode (mC M_L_tip) 8 = .ok (.lastore, 1) := by decide +kernel
theorem dL_tip_9 : decode (mC M_L_tip) 9 = .ok (.goto 9, 3) := by decide +kernel
theorem dL_tip_12 : decode (mC M_L_tip) 12 = .ok (.astore_n 3, 1) := by decide +kernel
theorem dL_tip_13 : decode (mC M_L_tip) 13 = .ok (.iconst 1, 1) := by decide +kernel
theorem dL_tip_14 : decode (mC M_L_tip) 14 = .ok (.ireturn, 1) := by decide +kernel
theorem dL_tip_15 : decode (mC M_L_tip) 15 = .ok (.astore_n 3, 1) := by decide +kernel
theorem dL_tip_16 : decode (mC M_L_tip) 16 = .ok (.iconst 2, 1) := by decide +kernel
theorem dL_tip_17 : decode (mC M_L_tip) 17 = .ok (.ireturn, 1) := by decide +kernel
theorem dL_tip_18 : decode (mC M_L_tip) 18 = .ok (.iconst 0, 1) := by decide +kernel
theorem dL_tip_19 : decode (mC M_L_tip) 19 = .ok (.ireturn, 1) := by decide +kernel
theorem dL_isOpen_0 : decode (mC M_L_isOpen) 0 = .ok (.aload_n 2, 1) := by decide +kernel
theorem dL_isOpen_1 : decode (mC M_L_isOpen) 1 = .ok (.iconst 0, 1) := by decide +kernel
theorem dL_isOpen_2 : decode (mC M_L_isOpen) 2 = .ok (.aload_n 0, 1) := by decide +kernel
theorem dL_isOpen_3 : decode (mC M_L_isOpen) 3 = .ok (.iload_n 1, 1) := by decide +kernel
theorem dL_isOpen_4 : decode (mC M_L_isOpen) 4 = .ok (.invokevirtual 55, 3) := by decide +kernel
theorem dL_isOpen_7 : decode (mC M_L_isOpen) 7 = .ok (.ifCond .eq 7, 3) := by decide +kernel
theorem dL_isOpen_10 : decode (mC M_L_isOpen) 10 = .ok (.lconst 1, 1) := by decide +kernel
theorem dL_isOpen_11 : decode (mC M_L_isOpen) 11 = .ok (.goto 4, 3) := by decide +kernel
theorem dL_isOpen_14 : decode (mC M_L_isOpen) 14 = .ok (.lconst 0, 1) := by decide +kernel
theorem dL_isOpen_15 : decode (mC M_L_isOpen) 15 = .ok (.lastore, 1) := by decide +kernel
theorem dL_isOpen_16 : decode (mC M_L_isOpen) 16 = .ok (.goto 6, 3) := by decide +kernel
theorem dL_isOpen_19 : decode (mC M_L_isOpen) 19 = .ok (.astore_n 3, 1) := by decide +kernel
theorem dL_isOpen_20 : decode (mC M_L_isOpen) 20 = .ok (.iconst 1, 1) := by decide +kernel
theorem dL_isOpen_21 : decode (mC M_L_isOpen) 21 = .ok (.ireturn, 1) := by decide +kernel
theorem dL_isOpen_22 : decode (mC M_L_isOpen) 22 = .ok (.iconst 0, 1) := by decide +kernel
theorem dL_isOpen_23 : decode (mC M_L_isOpen) 23 = .ok (.ireturn, 1) := by decide +kernel
theorem dL_renter_0 : decode (mC M_L_renter) 0 = .ok (.aload_n 2, 1) := by decide +kernel
theorem dL_renter_1 : decode (mC M_L_renter) 1 = .ok (.iconst 0, 1) := by decide +kernel
theorem dL_renter_2 : decode (mC M_L_renter) 2 = .ok (.aload_n 0, 1) := by decide +kernel
theorem dL_renter_3 : decode (mC M_L_renter) 3 = .ok (.iload_n 1, 1) := by decide +kernel
theorem dL_renter_4 : decode (mC M_L_renter) 4 = .ok (.invokevirtual 59, 3) := by decide +kernel
theorem dL_renter_7 : decode (mC M_L_renter) 7 = .ok (.i2l, 1) := by decide +kernel
theorem dL_renter_8 : decode (mC M_L_renter) 8 = .ok (.lastore, 1) := by decide +kernel
theorem dL_renter_9 : decode (mC M_L_renter) 9 = .ok (.goto 6, 3) := by decide +kernel
theorem dL_renter_12 : decode (mC M_L_renter) 12 = .ok (.astore_n 3, 1) := by decide +kernel
theorem dL_renter_13 : decode (mC M_L_renter) 13 = .ok (.iconst 1, 1) := by decide +kernel
theorem dL_renter_14 : decode (mC M_L_renter) 14 = .ok (.ireturn, 1) := by decide +kernel
theorem dL_renter_15 : decode (mC M_L_renter) 15 = .ok (.iconst 0, 1) := by decide +kernel
theorem dL_renter_16 : decode (mC M_L_renter) 16 = .ok (.ireturn, 1) := by decide +kernel
theorem dL_clock_0 : decode (mC M_L_clock) 0 = .ok (.aload_n 2, 1) := by decide +kernel
theorem dL_clock_1 : decode (mC M_L_clock) 1 = .ok (.iconst 0, 1) := by decide +kernel
theorem dL_clock_2 : decode (mC M_L_clock) 2 = .ok (.aload_n 0, 1) := by decide +kernel
theorem dL_clock_3 : decode (mC M_L_clock) 3 = .ok (.iload_n 1, 1) := by decide +kernel
theorem dL_clock_4 : decode (mC M_L_clock) 4 = .ok (.invokevirtual 62, 3) := by decide +kernel
theorem dL_clock_7 : decode (mC M_L_clock) 7 = .ok (.i2l, 1) := by decide +kernel
theorem dL_clock_8 : decode (mC M_L_clock) 8 = .ok (.lastore, 1) := by decide +kernel
theorem dL_clock_9 : decode (mC M_L_clock) 9 = .ok (.goto 6, 3) := by decide +kernel
theorem dL_clock_12 : decode (mC M_L_clock) 12 = .ok (.astore_n 3, 1) := by decide +kernel
theorem dL_clock_13 : decode (mC M_L_clock) 13 = .ok (.iconst 1, 1) := by decide +kernel
theorem dL_clock_14 : decode (mC M_L_clock) 14 = .ok (.ireturn, 1) := by decide +kernel
theorem dL_clock_15 : decode (mC M_L_clock) 15 = .ok (.iconst 0, 1) := by decide +kernel
theorem dL_clock_16 : decode (mC M_L_clock) 16 = .ok (.ireturn, 1) := by decide +kernel
theorem dL_frameOn_0 : decode (mC M_L_frameOn) 0 = .ok (.aload_n 2, 1) := by decide +kernel
theorem dL_frameOn_1 : decode (mC M_L_frameOn) 1 = .ok (.iconst 0, 1) := by decide +kernel
theorem dL_frameOn_2 : decode (mC M_L_frameOn) 2 = .ok (.aload_n 0, 1) := by decide +kernel
theorem dL_frameOn_3 : decode (mC M_L_frameOn) 3 = .ok (.iload_n 1, 1) := by decide +kernel
theorem dL_frameOn_4 : decode (mC M_L_frameOn) 4 = .ok (.invokevirtual 65, 3) := by decide +kernel
theorem dL_frameOn_7 : decode (mC M_L_frameOn) 7 = .ok (.i2l, 1) := by decide +kernel
theorem dL_frameOn_8 : decode (mC M_L_frameOn) 8 = .ok (.lastore, 1) := by decide +kernel
theorem dL_frameOn_9 : decode (mC M_L_frameOn) 9 = .ok (.goto 6, 3) := by decide +kernel
theorem dL_frameOn_12 : decode (mC M_L_frameOn) 12 = .ok (.astore_n 3, 1) := by decide +kernel
theorem dL_frameOn_13 : decode (mC M_L_frameOn) 13 = .ok (.iconst 1, 1) := by decide +kernel
theorem dL_frameOn_14 : decode (mC M_L_frameOn) 14 = .ok (.ireturn, 1) := by decide +kernel
theorem dL_frameOn_15 : decode (mC M_L_frameOn) 15 = .ok (.iconst 0, 1) := by decide +kernel
theorem dL_frameOn_16 : decode (mC M_L_frameOn) 16 = .ok (.ireturn, 1) := by decide +kernel
theorem dL_owes_0 : decode (mC M_L_owes) 0 = .ok (.aload_n 2, 1) := by decide +kernel
theorem dL_owes_1 : decode (mC M_L_owes) 1 = .ok (.iconst 0, 1) := by decide +kernel
theorem dL_owes_2 : decode (mC M_L_owes) 2 = .ok (.aload_n 0, 1) := by decide +kernel
theorem dL_owes_3 : decode (mC M_L_owes) 3 = .ok (.iload_n 1, 1) := by decide +kernel
theorem dL_owes_4 : decode (mC M_L_owes) 4 = .ok (.invokevirtual 68, 3) := by decide +kernel
theorem dL_owes_7 : decode (mC M_L_owes) 7 = .ok (.i2l, 1) := by decide +kernel
theorem dL_owes_8 : decode (mC M_L_owes) 8 = .ok (.lastore, 1) := by decide +kernel
theorem dL_owes_9 : decode (mC M_L_owes) 9 = .ok (.goto 6, 3) := by decide +kernel
theorem dL_owes_12 : decode (mC M_L_owes) 12 = .ok (.astore_n 3, 1) := by decide +kernel
theorem dL_owes_13 : decode (mC M_L_owes) 13 = .ok (.iconst 1, 1) := by decide +kernel
theorem dL_owes_14 : decode (mC M_L_owes) 14 = .ok (.ireturn, 1) := by decide +kernel
theorem dL_owes_15 : decode (mC M_L_owes) 15 = .ok (.iconst 0, 1) := by decide +kernel
theorem dL_owes_16 : decode (mC M_L_owes) 16 = .ok (.ireturn, 1) := by decide +kernel
theorem dL_owesAnew_0 : decode (mC M_L_owesAnew) 0 = .ok (.aload_n 2, 1) := by decide +kernel
theorem dL_owesAnew_1 : decode (mC M_L_owesAnew) 1 = .ok (.iconst 0, 1) := by decide +kernel
theorem dL_owesAnew_2 : decode (mC M_L_owesAnew) 2 = .ok (.aload_n 0, 1) := by decide +kernel
theorem dL_owesAnew_3 : decode (mC M_L_owesAnew) 3 = .ok (.iload_n 1, 1) := by decide +kernel
theorem dL_owesAnew_4 : decode (mC M_L_owesAnew) 4 = .ok (.invokevirtual 71, 3) := by decide +kernel
theorem dL_owesAnew_7 : decode (mC M_L_owesAnew) 7 = .ok (.i2l, 1) := by decide +kernel
theorem dL_owesAnew_8 : decode (mC M_L_owesAnew) 8 = .ok (.lastore, 1) := by decide +kernel
theorem dL_owesAnew_9 : decode (mC M_L_owesAnew) 9 = .ok (.goto 6, 3) := by decide +kernel
theorem dL_owesAnew_12 : decode (mC M_L_owesAnew) 12 = .ok (.astore_n 3, 1) := by decide +kernel
theorem dL_owesAnew_13 : decode (mC M_L_owesAnew) 13 = .ok (.iconst 1, 1) := by decide +kernel
theorem dL_owesAnew_14 : decode (mC M_L_owesAnew) 14 = .ok (.ireturn, 1) := by decide +kernel
theorem dL_owesAnew_15 : decode (mC M_L_owesAnew) 15 = .ok (.iconst 0, 1) := by decide +kernel
theorem dL_owesAnew_16 : decode (mC M_L_owesAnew) 16 = .ok (.ireturn, 1) := by decide +kernel
theorem dL_state_0 : decode (mC M_L_state) 0 = .ok (.aload_n 2, 1) := by decide +kernel
theorem dL_state_1 : decode (mC M_L_state) 1 = .ok (.iconst 0, 1) := by decide +kernel
theorem dL_state_2 : decode (mC M_L_state) 2 = .ok (.aload_n 0, 1) := by decide +kernel
theorem dL_state_3 : decode (mC M_L_state) 3 = .ok (.iload_n 1, 1) := by decide +kernel
theorem dL_state_4 : decode (mC M_L_state) 4 = .ok (.invokevirtual 74, 3) := by decide +kernel
theorem dL_state_7 : decode (mC M_L_state) 7 = .ok (.i2l, 1) := by decide +kernel
theorem dL_state_8 : decode (mC M_L_state) 8 = .ok (.lastore, 1) := by decide +kernel
theorem dL_state_9 : decode (mC M_L_state) 9 = .ok (.goto 6, 3) := by decide +kernel
theorem dL_state_12 : decode (mC M_L_state) 12 = .ok (.astore_n 3, 1) := by decide +kernel
theorem dL_state_13 : decode (mC M_L_state) 13 = .ok (.iconst 1, 1) := by decide +kernel
theorem dL_state_14 : decode (mC M_L_state) 14 = .ok (.ireturn, 1) := by decide +kernel
theorem dL_state_15 : decode (mC M_L_state) 15 = .ok (.iconst 0, 1) := by decide +kernel
theorem dL_state_16 : decode (mC M_L_state) 16 = .ok (.ireturn, 1) := by decide +kernel
theorem dL_cell_0 : decode (mC M_L_cell) 0 = .ok (.aload_n 3, 1) := by decide +kernel
theorem dL_cell_1 : decode (mC M_L_cell) 1 = .ok (.iconst 0, 1) := by decide +kernel
theorem dL_cell_2 : decode (mC M_L_cell) 2 = .ok (.aload_n 0, 1) := by decide +kernel
theorem dL_cell_3 : decode (mC M_L_cell) 3 = .ok (.iload_n 1, 1) := by decide +kernel
theorem dL_cell_4 : decode (mC M_L_cell) 4 = .ok (.iload_n 2, 1) := by decide +kernel
theorem dL_cell_5 : decode (mC M_L_cell) 5 = .ok (.invokevirtual 77, 3) := by decide +kernel
theorem dL_cell_8 : decode (mC M_L_cell) 8 = .ok (.i2l, 1) := by decide +kernel
theorem dL_cell_9 : decode (mC M_L_cell) 9 = .ok (.lastore, 1) := by decide +kernel
theorem dL_cell_10 : decode (mC M_L_cell) 10 = .ok (.goto 7, 3) := by decide +kernel
theorem dL_cell_13 : decode (mC M_L_cell) 13 = .ok (.astore 4, 2) := by decide +kernel
theorem dL_cell_15 : decode (mC M_L_cell) 15 = .ok (.iconst 1, 1) := by decide +kernel
theorem dL_cell_16 : decode (mC M_L_cell) 16 = .ok (.ireturn, 1) := by decide +kernel
theorem dL_cell_17 : decode (mC M_L_cell) 17 = .ok (.iconst 0, 1) := by decide +kernel
theorem dL_cell_18 : decode (mC M_L_cell) 18 = .ok (.ireturn, 1) := by decide +kernel
theorem dL_ballOn_0 : decode (mC M_L_ballOn) 0 = .ok (.aload_n 2, 1) := by decide +kernel
theorem dL_ballOn_1 : decode (mC M_L_ballOn) 1 = .ok (.iconst 0, 1) := by decide +kernel
theorem dL_ballOn_2 : decode (mC M_L_ballOn) 2 = .ok (.aload_n 0, 1) := by decide +kernel
theorem dL_ballOn_3 : decode (mC M_L_ballOn) 3 = .ok (.iload_n 1, 1) := by decide +kernel
theorem dL_ballOn_4 : decode (mC M_L_ballOn) 4 = .ok (.invokevirtual 80, 3) := by decide +kernel
theorem dL_ballOn_7 : decode (mC M_L_ballOn) 7 = .ok (.i2l, 1) := by decide +kernel
theorem dL_ballOn_8 : decode (mC M_L_ballOn) 8 = .ok (.lastore, 1) := by decide +kernel
theorem dL_ballOn_9 : decode (mC M_L_ballOn) 9 = .ok (.goto 6, 3) := by decide +kernel
theorem dL_ballOn_12 : decode (mC M_L_ballOn) 12 = .ok (.astore_n 3, 1) := by decide +kernel
theorem dL_ballOn_13 : decode (mC M_L_ballOn) 13 = .ok (.iconst 1, 1) := by decide +kernel
theorem dL_ballOn_14 : decode (mC M_L_ballOn) 14 = .ok (.ireturn, 1) := by decide +kernel
theorem dL_ballOn_15 : decode (mC M_L_ballOn) 15 = .ok (.iconst 0, 1) := by decide +kernel
theorem dL_ballOn_16 : decode (mC M_L_ballOn) 16 = .ok (.ireturn, 1) := by decide +kernel
theorem dL_isFree_0 : decode (mC M_L_isFree) 0 = .ok (.aload_n 2, 1) := by decide +kernel
theorem dL_isFree_1 : decode (mC M_L_isFree) 1 = .ok (.iconst 0, 1) := by decide +kernel
theorem dL_isFree_2 : decode (mC M_L_isFree) 2 = .ok (.aload_n 0, 1) := by decide +kernel
theorem dL_isFree_3 : decode (mC M_L_isFree) 3 = .ok (.iload_n 1, 1) := by decide +kernel
theorem dL_isFree_4 : decode (mC M_L_isFree) 4 = .ok (.invokevirtual 83, 3) := by decide +kernel
theorem dL_isFree_7 : decode (mC M_L_isFree) 7 = .ok (.ifCond .eq 7, 3) := by decide +kernel
theorem dL_isFree_10 : decode (mC M_L_isFree) 10 = .ok (.lconst 1, 1) := by decide +kernel
theorem dL_isFree_11 : decode (mC M_L_isFree) 11 = .ok (.goto 4, 3) := by decide +kernel
theorem dL_isFree_14 : decode (mC M_L_isFree) 14 = .ok (.lconst 0, 1) := by decide +kernel
theorem dL_isFree_15 : decode (mC M_L_isFree) 15 = .ok (.lastore, 1) := by decide +kernel
theorem dL_isFree_16 : decode (mC M_L_isFree) 16 = .ok (.goto 6, 3) := by decide +kernel
theorem dL_isFree_19 : decode (mC M_L_isFree) 19 = .ok (.astore_n 3, 1) := by decide +kernel
theorem dL_isFree_20 : decode (mC M_L_isFree) 20 = .ok (.iconst 1, 1) := by decide +kernel
theorem dL_isFree_21 : decode (mC M_L_isFree) 21 = .ok (.ireturn, 1) := by decide +kernel
theorem dL_isFree_22 : decode (mC M_L_isFree) 22 = .ok (.iconst 0, 1) := by decide +kernel
theorem dL_isFree_23 : decode (mC M_L_isFree) 23 = .ok (.ireturn, 1) := by decide +kernel
theorem dL_turn_0 : decode (mC M_L_turn) 0 = .ok (.aload_n 2, 1) := by decide +kernel
theorem dL_turn_1 : decode (mC M_L_turn) 1 = .ok (.iconst 0, 1) := by decide +kernel
theorem dL_turn_2 : decode (mC M_L_turn) 2 = .ok (.aload_n 0, 1) := by decide +kernel
theorem dL_turn_3 : decode (mC M_L_turn) 3 = .ok (.iload_n 1, 1) := by decide +kernel
theorem dL_turn_4 : decode (mC M_L_turn) 4 = .ok (.invokevirtual 86, 3) := by decide +kernel
theorem dL_turn_7 : decode (mC M_L_turn) 7 = .ok (.i2l, 1) := by decide +kernel
theorem dL_turn_8 : decode (mC M_L_turn) 8 = .ok (.lastore, 1) := by decide +kernel
theorem dL_turn_9 : decode (mC M_L_turn) 9 = .ok (.goto 6, 3) := by decide +kernel
theorem dL_turn_12 : decode (mC M_L_turn) 12 = .ok (.astore_n 3, 1) := by decide +kernel
theorem dL_turn_13 : decode (mC M_L_turn) 13 = .ok (.iconst 1, 1) := by decide +kernel
theorem dL_turn_14 : decode (mC M_L_turn) 14 = .ok (.ireturn, 1) := by decide +kernel
theorem dL_turn_15 : decode (mC M_L_turn) 15 = .ok (.iconst 0, 1) := by decide +kernel
theorem dL_turn_16 : decode (mC M_L_turn) 16 = .ok (.ireturn, 1) := by decide +kernel
theorem dL_points_0 : decode (mC M_L_points) 0 = .ok (.aload_n 3, 1) := by decide +kernel
theorem dL_points_1 : decode (mC M_L_points) 1 = .ok (.iconst 0, 1) := by decide +kernel
theorem dL_points_2 : decode (mC M_L_points) 2 = .ok (.aload_n 0, 1) := by decide +kernel
theorem dL_points_3 : decode (mC M_L_points) 3 = .ok (.iload_n 1, 1) := by decide +kernel
theorem dL_points_4 : decode (mC M_L_points) 4 = .ok (.iload_n 2, 1) := by decide +kernel
theorem dL_points_5 : decode (mC M_L_points) 5 = .ok (.invokevirtual 89, 3) := by decide +kernel
theorem dL_points_8 : decode (mC M_L_points) 8 = .ok (.i2l, 1) := by decide +kernel
theorem dL_points_9 : decode (mC M_L_points) 9 = .ok (.lastore, 1) := by decide +kernel
theorem dL_points_10 : decode (mC M_L_points) 10 = .ok (.goto 7, 3) := by decide +kernel
theorem dL_points_13 : decode (mC M_L_points) 13 = .ok (.astore 4, 2) := by decide +kernel
theorem dL_points_15 : decode (mC M_L_points) 15 = .ok (.iconst 1, 1) := by decide +kernel
theorem dL_points_16 : decode (mC M_L_points) 16 = .ok (.ireturn, 1) := by decide +kernel
theorem dL_points_17 : decode (mC M_L_points) 17 = .ok (.iconst 0, 1) := by decide +kernel
theorem dL_points_18 : decode (mC M_L_points) 18 = .ok (.ireturn, 1) := by decide +kernel
theorem dL_winner_0 : decode (mC M_L_winner) 0 = .ok (.aload_n 2, 1) := by decide +kernel
theorem dL_winner_1 : decode (mC M_L_winner) 1 = .ok (.iconst 0, 1) := by decide +kernel
theorem dL_winner_2 : decode (mC M_L_winner) 2 = .ok (.aload_n 0, 1) := by decide +kernel
theorem dL_winner_3 : decode (mC M_L_winner) 3 = .ok (.iload_n 1, 1) := by decide +kernel
theorem dL_winner_4 : decode (mC M_L_winner) 4 = .ok (.invokevirtual 93, 3) := by decide +kernel
theorem dL_winner_7 : decode (mC M_L_winner) 7 = .ok (.i2l, 1) := by decide +kernel
theorem dL_winner_8 : decode (mC M_L_winner) 8 = .ok (.lastore, 1) := by decide +kernel
theorem dL_winner_9 : decode (mC M_L_winner) 9 = .ok (.goto 6, 3) := by decide +kernel
theorem dL_winner_12 : decode (mC M_L_winner) 12 = .ok (.astore_n 3, 1) := by decide +kernel
theorem dL_winner_13 : decode (mC M_L_winner) 13 = .ok (.iconst 1, 1) := by decide +kernel
theorem dL_winner_14 : decode (mC M_L_winner) 14 = .ok (.ireturn, 1) := by decide +kernel
theorem dL_winner_15 : decode (mC M_L_winner) 15 = .ok (.iconst 0, 1) := by decide +kernel
theorem dL_winner_16 : decode (mC M_L_winner) 16 = .ok (.ireturn, 1) := by decide +kernel
theorem dL_contacts_0 : decode (mC M_L_contacts) 0 = .ok (.aload 4, 2) := by decide +kernel
theorem dL_contacts_2 : decode (mC M_L_contacts) 2 = .ok (.iconst 0, 1) := by decide +kernel
theorem dL_contacts_3 : decode (mC M_L_contacts) 3 = .ok (.aload_n 0, 1) := by decide +kernel
theorem dL_contacts_4 : decode (mC M_L_contacts) 4 = .ok (.iload_n 1, 1) := by decide +kernel
theorem dL_contacts_5 : decode (mC M_L_contacts) 5 = .ok (.iload_n 2, 1) := by decide +kernel
theorem dL_contacts_6 : decode (mC M_L_contacts) 6 = .ok (.iload_n 3, 1) := by decide +kernel
theorem dL_contacts_7 : decode (mC M_L_contacts) 7 = .ok (.invokevirtual 96, 3) := by decide +kernel
theorem dL_contacts_10 : decode (mC M_L_contacts) 10 = .ok (.i2l, 1) := by decide +kernel
theorem dL_contacts_11 : decode (mC M_L_contacts) 11 = .ok (.lastore, 1) := by decide +kernel
theorem dL_contacts_12 : decode (mC M_L_contacts) 12 = .ok (.goto 11, 3) := by decide +kernel
theorem dL_contacts_15 : decode (mC M_L_contacts) 15 = .ok (.astore 5, 2) := by decide +kernel
theorem dL_contacts_17 : decode (mC M_L_contacts) 17 = .ok (.iconst 1, 1) := by decide +kernel
theorem dL_contacts_18 : decode (mC M_L_contacts) 18 = .ok (.ireturn, 1) := by decide +kernel
theorem dL_contacts_19 : decode (mC M_L_contacts) 19 = .ok (.astore 5, 2) := by decide +kernel
theorem dL_contacts_21 : decode (mC M_L_contacts) 21 = .ok (.iconst 2, 1) := by decide +kernel
theorem dL_contacts_22 : decode (mC M_L_contacts) 22 = .ok (.ireturn, 1) := by decide +kernel
theorem dL_contacts_23 : decode (mC M_L_contacts) 23 = .ok (.iconst 0, 1) := by decide +kernel
theorem dL_contacts_24 : decode (mC M_L_contacts) 24 = .ok (.ireturn, 1) := by decide +kernel
theorem dL_contactsByPairs_0 : decode (mC M_L_contactsByPairs) 0 = .ok (.aload 4, 2) := by decide +kernel
theorem dL_contactsByPairs_2 : decode (mC M_L_contactsByPairs) 2 = .ok (.iconst 0, 1) := by decide +kernel
theorem dL_contactsByPairs_3 : decode (mC M_L_contactsByPairs) 3 = .ok (.aload_n 0, 1) := by decide +kernel
theorem dL_contactsByPairs_4 : decode (mC M_L_contactsByPairs) 4 = .ok (.iload_n 1, 1) := by decide +kernel
theorem dL_contactsByPairs_5 : decode (mC M_L_contactsByPairs) 5 = .ok (.iload_n 2, 1) := by decide +kernel
theorem dL_contactsByPairs_6 : decode (mC M_L_contactsByPairs) 6 = .ok (.iload_n 3, 1) := by decide +kernel
theorem dL_contactsByPairs_7 : decode (mC M_L_contactsByPairs) 7 = .ok (.invokevirtual 99, 3) := by decide +kernel
theorem dL_contactsByPairs_10 : decode (mC M_L_contactsByPairs) 10 = .ok (.i2l, 1) := by decide +kernel
theorem dL_contactsByPairs_11 : decode (mC M_L_contactsByPairs) 11 = .ok (.lastore, 1) := by decide +kernel
theorem dL_contactsByPairs_12 : decode (mC M_L_contactsByPairs) 12 = .ok (.goto 11, 3) := by decide +kernel
theorem dL_contactsByPairs_15 : decode (mC M_L_contactsByPairs) 15 = .ok (.astore 5, 2) := by decide +kernel
theorem dL_contactsByPairs_17 : decode (mC M_L_contactsByPairs) 17 = .ok (.iconst 1, 1) := by decide +kernel
theorem dL_contactsByPairs_18 : decode (mC M_L_contactsByPairs) 18 = .ok (.ireturn, 1) := by decide +kernel
theorem dL_contactsByPairs_19 : decode (mC M_L_contactsByPairs) 19 = .ok (.astore 5, 2) := by decide +kernel
theorem dL_contactsByPairs_21 : decode (mC M_L_contactsByPairs) 21 = .ok (.iconst 2, 1) := by decide +kernel
theorem dL_contactsByPairs_22 : decode (mC M_L_contactsByPairs) 22 = .ok (.ireturn, 1) := by decide +kernel
theorem dL_contactsByPairs_23 : decode (mC M_L_contactsByPairs) 23 = .ok (.iconst 0, 1) := by decide +kernel
theorem dL_contactsByPairs_24 : decode (mC M_L_contactsByPairs) 24 = .ok (.ireturn, 1) := by decide +kernel
theorem dL_wins_0 : decode (mC M_L_wins) 0 = .ok (.aload_n 2, 1) := by decide +kernel
theorem dL_wins_1 : decode (mC M_L_wins) 1 = .ok (.iconst 0, 1) := by decide +kernel
theorem dL_wins_2 : decode (mC M_L_wins) 2 = .ok (.aload_n 0, 1) := by decide +kernel
theorem dL_wins_3 : decode (mC M_L_wins) 3 = .ok (.iload_n 1, 1) := by decide +kernel
theorem dL_wins_4 : decode (mC M_L_wins) 4 = .ok (.invokevirtual 102, 3) := by decide +kernel
theorem dL_wins_7 : decode (mC M_L_wins) 7 = .ok (.i2l, 1) := by decide +kernel
theorem dL_wins_8 : decode (mC M_L_wins) 8 = .ok (.lastore, 1) := by decide +kernel
theorem dL_wins_9 : decode (mC M_L_wins) 9 = .ok (.goto 6, 3) := by decide +kernel
theorem dL_wins_12 : decode (mC M_L_wins) 12 = .ok (.astore_n 3, 1) := by decide +kernel
theorem dL_wins_13 : decode (mC M_L_wins) 13 = .ok (.iconst 1, 1) := by decide +kernel
theorem dL_wins_14 : decode (mC M_L_wins) 14 = .ok (.ireturn, 1) := by decide +kernel
theorem dL_wins_15 : decode (mC M_L_wins) 15 = .ok (.iconst 0, 1) := by decide +kernel
theorem dL_wins_16 : decode (mC M_L_wins) 16 = .ok (.ireturn, 1) := by decide +kernel
theorem dL_rank_0 : decode (mC M_L_rank) 0 = .ok (.aload_n 2, 1) := by decide +kernel
theorem dL_rank_1 : decode (mC M_L_rank) 1 = .ok (.iconst 0, 1) := by decide +kernel
theorem dL_rank_2 : decode (mC M_L_rank) 2 = .ok (.aload_n 0, 1) := by decide +kernel
theorem dL_rank_3 : decode (mC M_L_rank) 3 = .ok (.iload_n 1, 1) := by decide +kernel
theorem dL_rank_4 : decode (mC M_L_rank) 4 = .ok (.invokevirtual 105, 3) := by decide +kernel
theorem dL_rank_7 : decode (mC M_L_rank) 7 = .ok (.i2l, 1) := by decide +kernel
theorem dL_rank_8 : decode (mC M_L_rank) 8 = .ok (.lastore, 1) := by decide +kernel
theorem dL_rank_9 : decode (mC M_L_rank) 9 = .ok (.goto 6, 3) := by decide +kernel
theorem dL_rank_12 : decode (mC M_L_rank) 12 = .ok (.astore_n 3, 1) := by decide +kernel
theorem dL_rank_13 : decode (mC M_L_rank) 13 = .ok (.iconst 1, 1) := by decide +kernel
theorem dL_rank_14 : decode (mC M_L_rank) 14 = .ok (.ireturn, 1) := by decide +kernel
theorem dL_rank_15 : decode (mC M_L_rank) 15 = .ok (.iconst 0, 1) := by decide +kernel
theorem dL_rank_16 : decode (mC M_L_rank) 16 = .ok (.ireturn, 1) := by decide +kernel
theorem dL_wear_0 : decode (mC M_L_wear) 0 = .ok (.aload_n 2, 1) := by decide +kernel
theorem dL_wear_1 : decode (mC M_L_wear) 1 = .ok (.iconst 0, 1) := by decide +kernel
theorem dL_wear_2 : decode (mC M_L_wear) 2 = .ok (.aload_n 0, 1) := by decide +kernel
theorem dL_wear_3 : decode (mC M_L_wear) 3 = .ok (.iload_n 1, 1) := by decide +kernel
theorem dL_wear_4 : decode (mC M_L_wear) 4 = .ok (.invokevirtual 108, 3) := by decide +kernel
theorem dL_wear_7 : decode (mC M_L_wear) 7 = .ok (.i2l, 1) := by decide +kernel
theorem dL_wear_8 : decode (mC M_L_wear) 8 = .ok (.lastore, 1) := by decide +kernel
theorem dL_wear_9 : decode (mC M_L_wear) 9 = .ok (.goto 6, 3) := by decide +kernel
theorem dL_wear_12 : decode (mC M_L_wear) 12 = .ok (.astore_n 3, 1) := by decide +kernel
theorem dL_wear_13 : decode (mC M_L_wear) 13 = .ok (.iconst 1, 1) := by decide +kernel
theorem dL_wear_14 : decode (mC M_L_wear) 14 = .ok (.ireturn, 1) := by decide +kernel
theorem dL_wear_15 : decode (mC M_L_wear) 15 = .ok (.iconst 0, 1) := by decide +kernel
theorem dL_wear_16 : decode (mC M_L_wear) 16 = .ok (.ireturn, 1) := by decide +kernel
theorem dL_cueOf_0 : decode (mC M_L_cueOf) 0 = .ok (.aload_n 2, 1) := by decide +kernel
theorem dL_cueOf_1 : decode (mC M_L_cueOf) 1 = .ok (.iconst 0, 1) := by decide +kernel
theorem dL_cueOf_2 : decode (mC M_L_cueOf) 2 = .ok (.aload_n 0, 1) := by decide +kernel
theorem dL_cueOf_3 : decode (mC M_L_cueOf) 3 = .ok (.iload_n 1, 1) := by decide +kernel
theorem dL_cueOf_4 : decode (mC M_L_cueOf) 4 = .ok (.invokevirtual 111, 3) := by decide +kernel
theorem dL_cueOf_7 : decode (mC M_L_cueOf) 7 = .ok (.i2l, 1) := by decide +kernel
theorem dL_cueOf_8 : decode (mC M_L_cueOf) 8 = .ok (.lastore, 1) := by decide +kernel
theorem dL_cueOf_9 : decode (mC M_L_cueOf) 9 = .ok (.goto 6, 3) := by decide +kernel
theorem dL_cueOf_12 : decode (mC M_L_cueOf) 12 = .ok (.astore_n 3, 1) := by decide +kernel
theorem dL_cueOf_13 : decode (mC M_L_cueOf) 13 = .ok (.iconst 1, 1) := by decide +kernel
theorem dL_cueOf_14 : decode (mC M_L_cueOf) 14 = .ok (.ireturn, 1) := by decide +kernel
theorem dL_cueOf_15 : decode (mC M_L_cueOf) 15 = .ok (.iconst 0, 1) := by decide +kernel
theorem dL_cueOf_16 : decode (mC M_L_cueOf) 16 = .ok (.ireturn, 1) := by decide +kernel
theorem dL_force_0 : decode (mC M_L_force) 0 = .ok (.aload_n 3, 1) := by decide +kernel
theorem dL_force_1 : decode (mC M_L_force) 1 = .ok (.iconst 0, 1) := by decide +kernel
theorem dL_force_2 : decode (mC M_L_force) 2 = .ok (.aload_n 0, 1) := by decide +kernel
theorem dL_force_3 : decode (mC M_L_force) 3 = .ok (.iload_n 1, 1) := by decide +kernel
theorem dL_force_4 : decode (mC M_L_force) 4 = .ok (.iload_n 2, 1) := by decide +kernel
theorem dL_force_5 : decode (mC M_L_force) 5 = .ok (.invokevirtual 114, 3) := by decide +kernel
theorem dL_force_8 : decode (mC M_L_force) 8 = .ok (.i2l, 1) := by decide +kernel
theorem dL_force_9 : decode (mC M_L_force) 9 = .ok (.lastore, 1) := by decide +kernel
theorem dL_force_10 : decode (mC M_L_force) 10 = .ok (.goto 11, 3) := by decide +kernel
theorem dL_force_13 : decode (mC M_L_force) 13 = .ok (.astore 4, 2) := by decide +kernel
theorem dL_force_15 : decode (mC M_L_force) 15 = .ok (.iconst 1, 1) := by decide +kernel
theorem dL_force_16 : decode (mC M_L_force) 16 = .ok (.ireturn, 1) := by decide +kernel
theorem dL_force_17 : decode (mC M_L_force) 17 = .ok (.astore 4, 2) := by decide +kernel
theorem dL_force_19 : decode (mC M_L_force) 19 = .ok (.iconst 2, 1) := by decide +kernel
theorem dL_force_20 : decode (mC M_L_force) 20 = .ok (.ireturn, 1) := by decide +kernel
theorem dL_force_21 : decode (mC M_L_force) 21 = .ok (.iconst 0, 1) := by decide +kernel
theorem dL_force_22 : decode (mC M_L_force) 22 = .ok (.ireturn, 1) := by decide +kernel
