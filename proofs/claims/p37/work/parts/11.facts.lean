-- ===== the facts of the methods, by program =====
theorem tb_4 {w : Cond} {i : Nat} (h : tables_1_4[i]? = some w) : w ∈ lw_tb2 := by
  refine List.mem_append_left _ (List.mem_append_right _ ?_)
  unfold tables_1
  exact List.mem_append_right _ (List.mem_append_right _ (List.mem_append_right _ (List.mem_of_getElem? h)))
theorem tb_3 {w : Cond} {i : Nat} (h : tables_1_3[i]? = some w) : w ∈ lw_tb2 := by
  refine List.mem_append_left _ (List.mem_append_right _ ?_)
  unfold tables_1
  exact List.mem_append_right _ (List.mem_append_right _ (List.mem_append_left _ (List.mem_of_getElem? h)))
def M_X9_init : MTy := (yX9_init, cX9_init, 2, none, [], 4, 40, 2200, true)
def M_X9_setPrice : MTy := (yX9_setPrice, cX9_setPrice, 3, some FieldType.int, [], 7, 1, 6, false)
def M_X9_rent : MTy := (yX9_rent, cX9_rent, 5, some FieldType.int, [], 7, 4, 23, true)
def M_X9_end : MTy := (yX9_end, cX9_end, 3, some FieldType.int, [], 7, 2, 12, false)
def M_X9_tear : MTy := (yX9_tear, cX9_tear, 4, some FieldType.int, [], 7, 2, 12, false)
def M_X9_mend : MTy := (yX9_mend, cX9_mend, 3, some FieldType.int, [], 7, 2, 12, false)
def M_X9_pass : MTy := (yX9_pass, cX9_pass, 7, some FieldType.int, [], 7, 2, 12, false)
def M_X9_begin : MTy := (yX9_begin, cX9_begin, 7, some FieldType.int, [], 7, 10, 64, true)
def M_X9_resume : MTy := (yX9_resume, cX9_resume, 5, some FieldType.int, [], 7, 6, 33, true)
def M_X9_shoot : MTy := (yX9_shoot, cX9_shoot, 7, some FieldType.int, [], 7, 4, 24, false)
def M_X9_lend : MTy := (yX9_lend, cX9_lend, 5, some FieldType.int, [], 7, 4, 21, true)
def M_X9_takeBack : MTy := (yX9_takeBack, cX9_takeBack, 5, some FieldType.int, [], 7, 2, 12, false)
def M_X9_tip : MTy := (yX9_tip, cX9_tip, 4, some FieldType.int, [], 7, 2, 12, false)
def M_X9_minute : MTy := (yX9_minute, cX9_minute, 1, some FieldType.int, [], 1, 0, 0, false)
def M_X9_isOpen : MTy := (yX9_isOpen, cX9_isOpen, 2, some FieldType.boolean, [], 7, 1, 6, false)
def M_X9_renter : MTy := (yX9_renter, cX9_renter, 3, some FieldType.int, [], 7, 1, 6, false)
def M_X9_clock : MTy := (yX9_clock, cX9_clock, 3, some FieldType.int, [], 7, 1, 6, false)
def M_X9_frameOn : MTy := (yX9_frameOn, cX9_frameOn, 3, some FieldType.int, [], 7, 1, 6, false)
def M_X9_owes : MTy := (yX9_owes, cX9_owes, 2, some FieldType.int, [], 7, 1, 6, false)
def M_X9_owesAnew : MTy := (yX9_owesAnew, cX9_owesAnew, 2, some FieldType.int, [], 7, 1, 6, false)
def M_X9_frames : MTy := (yX9_frames, cX9_frames, 1, some FieldType.int, [], 1, 0, 0, false)
def M_X9_state : MTy := (yX9_state, cX9_state, 3, some FieldType.int, [], 7, 1, 6, false)
def M_X9_cell : MTy := (yX9_cell, cX9_cell, 4, some FieldType.int, [], 7, 2, 12, false)
def M_X9_ballOn : MTy := (yX9_ballOn, cX9_ballOn, 2, some FieldType.int, [], 7, 1, 6, false)
def M_X9_isFree : MTy := (yX9_isFree, cX9_isFree, 2, some FieldType.boolean, [], 7, 1, 6, false)
def M_X9_turn : MTy := (yX9_turn, cX9_turn, 3, some FieldType.int, [], 7, 1, 6, false)
def M_X9_points : MTy := (yX9_points, cX9_points, 4, some FieldType.int, [], 7, 1, 6, false)
def M_X9_winner : MTy := (yX9_winner, cX9_winner, 2, some FieldType.int, [], 7, 1, 6, false)
def M_X9_contacts : MTy := (yX9_contacts, cX9_contacts, 4, some FieldType.int, [], 8, 3, 18, false)
def M_X9_contactsByPairs : MTy := (yX9_contactsByPairs, cX9_contactsByPairs, 4, some FieldType.int, [], 8, 3, 18, false)
def M_X9_wins : MTy := (yX9_wins, cX9_wins, 2, some FieldType.int, [], 7, 1, 6, false)
def M_X9_rank : MTy := (yX9_rank, cX9_rank, 7, some FieldType.int, [], 7, 1, 6, false)
def M_X9_wear : MTy := (yX9_wear, cX9_wear, 2, some FieldType.int, [], 7, 1, 6, false)
def M_X9_cueOf : MTy := (yX9_cueOf, cX9_cueOf, 3, some FieldType.int, [], 7, 1, 6, false)
def M_X9_force : MTy := (yX9_force, cX9_force, 3, some FieldType.int, [], 7, 2, 12, false)
def M_X9_requireRange : MTy := (yX9_requireRange, cX9_requireRange, 3, none, [], 6, 1, 6, false)
def M_X9_requireCustomer : MTy := (yX9_requireCustomer, cX9_requireCustomer, 1, none, [], 6, 1, 6, false)
def M_X9_tableAt : MTy := (yX9_tableAt, cX9_tableAt, 3, some (FieldType.object "BaulkHall$Table"), [], 6, 1, 6, false)
def M_X9_cueAt : MTy := (yX9_cueAt, cX9_cueAt, 3, some (FieldType.object "BaulkHall$Cue"), [], 6, 1, 6, false)
def M_X9_frameAt : MTy := (yX9_frameAt, cX9_frameAt, 3, some (FieldType.object "BaulkHall$Frame"), [], 6, 1, 6, false)
def M_X9_requirePlace : MTy := (yX9_requirePlace, cX9_requirePlace, 4, none, [], 6, 2, 12, false)
def M_X9_rentsAny : MTy := (yX9_rentsAny, cX9_rentsAny, 6, some FieldType.boolean, [], 2, 0, 0, false)
def M_X9_rentedTables : MTy := (yX9_rentedTables, cX9_rentedTables, 6, some FieldType.int, [], 1, 0, 0, false)
def M_X9_openTables : MTy := (yX9_openTables, cX9_openTables, 6, some FieldType.int, [], 1, 0, 0, false)
def M_X9_endRental : MTy := (yX9_endRental, cX9_endRental, 4, some FieldType.int, [], 3, 0, 0, false)
def M_X9_billFor : MTy := (yX9_billFor, cX9_billFor, 2, some FieldType.int, [], 1, 0, 0, false)
def M_X9_addDebt : MTy := (yX9_addDebt, cX9_addDebt, 3, none, [], 1, 0, 0, false)
def M_X9_billsAnew : MTy := (yX9_billsAnew, cX9_billsAnew, 6, some FieldType.int, [], 4, 0, 0, false)
def M_X9_leagueMinutes : MTy := (yX9_leagueMinutes, cX9_leagueMinutes, 5, some FieldType.int, [], 3, 0, 0, false)
def M_X9_depositsAnew : MTy := (yX9_depositsAnew, cX9_depositsAnew, 5, some FieldType.int, [], 2, 0, 0, false)
def M_X9_putFrameOn : MTy := (yX9_putFrameOn, cX9_putFrameOn, 5, none, [], 3, 1, 3, true)
def M_X9_takeFrameOff : MTy := (yX9_takeFrameOff, cX9_takeFrameOff, 2, none, [], 2, 0, 0, false)
def M_X9_countWin : MTy := (yX9_countWin, cX9_countWin, 3, none, [], 1, 0, 0, false)
def M_X9_cueHeldBy : MTy := (yX9_cueHeldBy, cX9_cueHeldBy, 6, some (FieldType.object "BaulkHall$Cue"), [], 2, 0, 0, false)
def M_X9_forceWith : MTy := (yX9_forceWith, cX9_forceWith, 3, some FieldType.int, [], 2, 0, 0, false)
def M_X9_contactsOf : MTy := (yX9_contactsOf, cX9_contactsOf, 6, some FieldType.int, [], 7, 3, 18, false)
def M_X9_cellBeside : MTy := (yX9_cellBeside, cX9_cellBeside, 4, some FieldType.int, [], 2, 0, 0, false)
def M_X9_isColumn : MTy := (yX9_isColumn, cX9_isColumn, 1, some FieldType.boolean, [], 1, 0, 0, false)
def M_X9_isRow : MTy := (yX9_isRow, cX9_isRow, 1, some FieldType.boolean, [], 1, 0, 0, false)
def M_X9_isPocket : MTy := (yX9_isPocket, cX9_isPocket, 5, some FieldType.boolean, [], 1, 0, 0, false)
def M_X9_turnedBack : MTy := (yX9_turnedBack, cX9_turnedBack, 3, some FieldType.int, [], 2, 0, 0, false)
def M_X0_init : MTy := (yX0_init, cX0_init, 1, none, [], 3, 5, 160, true)
def M_X0_lay : MTy := (yX0_lay, cX0_lay, 2, none, [], 2, 0, 0, false)
def M_X0_ballBeside : MTy := (yX0_ballBeside, cX0_ballBeside, 4, some FieldType.int, [], 3, 0, 0, false)
def M_X0_note : MTy := (yX0_note, cX0_note, 4, none, [], 2, 0, 0, false)
def M_X0_put : MTy := (yX0_put, cX0_put, 3, none, [], 1, 0, 0, false)
def M_X1_init : MTy := (yX1_init, cX1_init, 1, none, [], 2, 0, 0, false)
def M_X1_isHeldBy : MTy := (yX1_isHeldBy, cX1_isHeldBy, 2, some FieldType.boolean, [], 1, 0, 0, false)
def M_X1_wearOff : MTy := (yX1_wearOff, cX1_wearOff, 2, none, [], 2, 0, 0, false)
def M_X2_init : MTy := (yX2_init, cX2_init, 5, none, [], 2, 1, 8, true)
def M_X2_player : MTy := (yX2_player, cX2_player, 1, some FieldType.int, [], 1, 0, 0, false)
def M_X2_isOver : MTy := (yX2_isOver, cX2_isOver, 1, some FieldType.boolean, [], 1, 0, 0, false)
def M_X2_isWaiting : MTy := (yX2_isWaiting, cX2_isWaiting, 1, some FieldType.boolean, [], 2, 0, 0, false)
def M_X2_lowestBall : MTy := (yX2_lowestBall, cX2_lowestBall, 2, some FieldType.int, [], 1, 0, 0, false)
def M_X2_settle : MTy := (yX2_settle, cX2_settle, 4, some FieldType.int, [], 6, 0, 0, false)
def M_X2_isFoul : MTy := (yX2_isFoul, cX2_isFoul, 3, some FieldType.boolean, [], 1, 0, 0, false)
def M_X2_settleFair : MTy := (yX2_settleFair, cX2_settleFair, 3, some FieldType.int, [], 3, 0, 0, false)
def M_X2_settleFoul : MTy := (yX2_settleFoul, cX2_settleFoul, 5, some FieldType.int, [], 5, 0, 0, false)
def M_X2_addPoints : MTy := (yX2_addPoints, cX2_addPoints, 3, none, [], 1, 0, 0, false)
def M_X2_leader : MTy := (yX2_leader, cX2_leader, 1, some FieldType.int, [], 2, 0, 0, false)
def M_X2_comeBack : MTy := (yX2_comeBack, cX2_comeBack, 2, none, [], 3, 0, 0, false)
def M_X2_lowestEmptyCell : MTy := (yX2_lowestEmptyCell, cX2_lowestEmptyCell, 2, some FieldType.int, [], 2, 0, 0, false)
def M_X2_ballIn : MTy := (yX2_ballIn, cX2_ballIn, 3, some FieldType.int, [], 1, 0, 0, false)
def M_X2_isHidden : MTy := (yX2_isHidden, cX2_isHidden, 3, some FieldType.boolean, [], 4, 0, 0, false)
def M_X2_firstBallFromWhite : MTy := (yX2_firstBallFromWhite, cX2_firstBallFromWhite, 5, some FieldType.int, [], 3, 0, 0, false)
def M_X3_init : MTy := (yX3_init, cX3_init, 3, none, [], 2, 0, 0, false)
def M_X3_close : MTy := (yX3_close, cX3_close, 2, none, [], 1, 0, 0, false)
def M_X3_isClosed : MTy := (yX3_isClosed, cX3_isClosed, 1, some FieldType.boolean, [], 1, 0, 0, false)
def M_X3_coinsKept : MTy := (yX3_coinsKept, cX3_coinsKept, 1, some FieldType.int, [], 1, 0, 0, false)
def M_X4_init : MTy := (yX4_init, cX4_init, 1, none, [], 3, 4, 32, true)
def M_X4_lay : MTy := (yX4_lay, cX4_lay, 1, none, [], 1, 0, 0, false)
def M_X4_ballBeside : MTy := (yX4_ballBeside, cX4_ballBeside, 4, some FieldType.int, [], 2, 0, 0, false)
def M_X4_note : MTy := (yX4_note, cX4_note, 4, none, [], 1, 0, 0, false)
def M_X4_isBeside : MTy := (yX4_isBeside, cX4_isBeside, 4, some FieldType.boolean, [], 1, 0, 0, false)
def M_X5_init : MTy := (yX5_init, cX5_init, 4, none, [], 2, 0, 0, false)
def M_X5_close : MTy := (yX5_close, cX5_close, 3, none, [], 1, 0, 0, false)
def M_X5_isClosed : MTy := (yX5_isClosed, cX5_isClosed, 1, some FieldType.boolean, [], 1, 0, 0, false)
def M_X6_init : MTy := (yX6_init, cX6_init, 1, none, [], 2, 4, 32, true)
def M_X6_run : MTy := (yX6_run, cX6_run, 6, none, [], 5, 0, 0, false)
def M_X6_droppedNumbers : MTy := (yX6_droppedNumbers, cX6_droppedNumbers, 3, some FieldType.int, [], 1, 0, 0, false)
def M_X6_isSomeRolling : MTy := (yX6_isSomeRolling, cX6_isSomeRolling, 2, some FieldType.boolean, [], 2, 0, 0, false)
def M_X6_isRolling : MTy := (yX6_isRolling, cX6_isRolling, 2, some FieldType.boolean, [], 1, 0, 0, false)
def M_X6_act : MTy := (yX6_act, cX6_act, 4, none, [], 4, 0, 0, false)
def M_X6_meet : MTy := (yX6_meet, cX6_meet, 4, none, [], 1, 0, 0, false)
def M_X6_roll : MTy := (yX6_roll, cX6_roll, 4, none, [], 3, 0, 0, false)
def M_X7_init : MTy := (yX7_init, cX7_init, 3, none, [], 2, 0, 0, false)
def M_X7_close : MTy := (yX7_close, cX7_close, 2, none, [], 1, 0, 0, false)
def M_X7_minutesWithin : MTy := (yX7_minutesWithin, cX7_minutesWithin, 4, some FieldType.int, [], 2, 0, 0, false)
def M_X8_init : MTy := (yX8_init, cX8_init, 1, none, [], 2, 0, 0, false)
def M_X8_isRentedBy : MTy := (yX8_isRentedBy, cX8_isRentedBy, 2, some FieldType.boolean, [], 1, 0, 0, false)
def M_X8_isCounting : MTy := (yX8_isCounting, cX8_isCounting, 1, some FieldType.boolean, [], 1, 0, 0, false)
def M_L_act : MTy := (yL_act, cL_act, 6, some FieldType.int, [(0, 494, 495, 111), (0, 494, 500, 113), (0, 494, 505, 115)], 9, 12, 100, true)
def M_L_refuses : MTy := (yL_refuses, cL_refuses, 17, some FieldType.boolean, [], 10, 5300, 44000, true)
def M_L_owe : MTy := (yL_owe, cL_owe, 3, some FieldType.boolean, [], 8, 2, 12, false)
def M_L_tables : MTy := (yL_tables, cL_tables, 3, some FieldType.boolean, [], 11, 32000, 270000, true)
def M_L_bed : MTy := (yL_bed, cL_bed, 8, some FieldType.boolean, [], 8, 16, 96, false)
def M_L_frame : MTy := (yL_frame, cL_frame, 7, some FieldType.boolean, [], 8, 7, 42, false)
def M_L_meets : MTy := (yL_meets, cL_meets, 5, some FieldType.boolean, [], 9, 6, 36, false)
def M_L_shots : MTy := (yL_shots, cL_shots, 1, some FieldType.boolean, [], 11, 32000, 270000, true)
def M_L_law : MTy := (yL_law, cL_law, 5, some .boolean, [], 14, 100000, 1000000, true)
theorem tw_mk {own E : String} {ik is ic : Nat} (h3 : (sTx.any fun q => q.1 == own && q.2.1 == is) = true) (h1 : Cond.classLink own ik E ∈ BW) (h2 : Cond.initialized E ∈ BW) (h4 : (vx_atS own ic E xNm).all (fun w => (lw_tb2.contains w && goodWord w) || XW.contains w) = true) (h5 : ∀ w ∈ Cond.classLink own ik E :: Cond.initialized E :: vx_atS own ic E xNm, vx_ot w = true) (h6 : Bundle.fit E = true) (h7 : ∀ n ∈ xNm, Bundle.fit n = true) : TW own E ik is ic := by
  refine ⟨h1, h2, ?_, fun w hw => ?_, h5, h6, h7⟩
  · obtain ⟨⟨a, b, c⟩, hq, he⟩ := List.any_eq_true.mp h3
    simp only [Bool.and_eq_true, beq_iff_eq] at he
    obtain ⟨i, hi⟩ := List.mem_iff_getElem?.mp hq
    exact ⟨i, c, by rw [hi, ← he.1, ← he.2]⟩
  · have h := List.all_eq_true.mp h4 w hw
    simp only [Bool.or_eq_true, Bool.and_eq_true, List.contains_iff_mem] at h
    exact h.elim (fun h => Or.inl (bw_in h.1 h.2)) Or.inr
theorem wIO : Cond.instanceMethod Lib.objectInit ∈ BW ∧ Cond.code Lib.objectInit ⟨#[0xb1]⟩ 1 none ∈ BW := ⟨(bw_i 53 (by decide +kernel) (by decide +kernel)), (bw_i 54 (by decide +kernel) (by decide +kernel))⟩
theorem wmax : Cond.static Lib.Math.max.name ∈ BW ∧ Cond.initialized "java/lang/Math" ∈ BW ∧ Cond.code Lib.Math.max.name Lib.Math.max.code 2 (some .int) ∈ BW := ⟨(bw_i 488 (by decide +kernel) (by decide +kernel)), (bw_i 45 (by decide +kernel) (by decide +kernel)), (bw_i 489 (by decide +kernel) (by decide +kernel))⟩
theorem wmin : Cond.static Lib.Math.min.name ∈ BW ∧ Cond.initialized "java/lang/Math" ∈ BW ∧ Cond.code Lib.Math.min.name Lib.Math.min.code 2 (some .int) ∈ BW := ⟨(bw_i 485 (by decide +kernel) (by decide +kernel)), (bw_i 45 (by decide +kernel) (by decide +kernel)), (bw_i 486 (by decide +kernel) (by decide +kernel))⟩
theorem wA_int : Cond.arrayClass .int ∈ BW := (bw_i 106 (by decide +kernel) (by decide +kernel))
theorem wA_boolean : Cond.arrayClass .boolean ∈ BW := (bw_i 107 (by decide +kernel) (by decide +kernel))
theorem mok_X9_init : MOK M_X9_init 0 := ⟨(bw_i 51 (by decide +kernel) (by decide +kernel)), (bw_i 30 (by decide +kernel) (by decide +kernel)), by decide, by decide, by decide +kernel⟩
theorem mok_X9_setPrice : MOK M_X9_setPrice 1 := ⟨(bw_i 638 (by decide +kernel) (by decide +kernel)), (bw_i 30 (by decide +kernel) (by decide +kernel)), by decide, by decide, by decide +kernel⟩
theorem mok_X9_rent : MOK M_X9_rent 2 := ⟨(bw_i 642 (by decide +kernel) (by decide +kernel)), (bw_i 30 (by decide +kernel) (by decide +kernel)), by decide, by decide, by decide +kernel⟩
theorem mok_X9_end : MOK M_X9_end 1 := ⟨(bw_i 682 (by decide +kernel) (by decide +kernel)), (bw_i 30 (by decide +kernel) (by decide +kernel)), by decide, by decide, by decide +kernel⟩
theorem mok_X9_tear : MOK M_X9_tear 1 := ⟨(bw_i 703 (by decide +kernel) (by decide +kernel)), (bw_i 30 (by decide +kernel) (by decide +kernel)), by decide, by decide, by decide +kernel⟩
theorem mok_X9_mend : MOK M_X9_mend 1 := ⟨(bw_i 708 (by decide +kernel) (by decide +kernel)), (bw_i 30 (by decide +kernel) (by decide +kernel)), by decide, by decide, by decide +kernel⟩
theorem mok_X9_pass : MOK M_X9_pass 1 := ⟨(bw_i 211 (by decide +kernel) (by decide +kernel)), (bw_i 30 (by decide +kernel) (by decide +kernel)), by decide, by decide, by decide +kernel⟩
theorem mok_X9_begin : MOK M_X9_begin 4 := ⟨(bw_i 306 (by decide +kernel) (by decide +kernel)), (bw_i 30 (by decide +kernel) (by decide +kernel)), by decide, by decide, by decide +kernel⟩
theorem mok_X9_resume : MOK M_X9_resume 2 := ⟨(bw_i 717 (by decide +kernel) (by decide +kernel)), (bw_i 30 (by decide +kernel) (by decide +kernel)), by decide, by decide, by decide +kernel⟩
theorem mok_X9_shoot : MOK M_X9_shoot 3 := ⟨(bw_i 726 (by decide +kernel) (by decide +kernel)), (bw_i 30 (by decide +kernel) (by decide +kernel)), by decide, by decide, by decide +kernel⟩
theorem mok_X9_lend : MOK M_X9_lend 2 := ⟨(bw_i 424 (by decide +kernel) (by decide +kernel)), (bw_i 30 (by decide +kernel) (by decide +kernel)), by decide, by decide, by decide +kernel⟩
theorem mok_X9_takeBack : MOK M_X9_takeBack 1 := ⟨(bw_i 802 (by decide +kernel) (by decide +kernel)), (bw_i 30 (by decide +kernel) (by decide +kernel)), by decide, by decide, by decide +kernel⟩
theorem mok_X9_tip : MOK M_X9_tip 1 := ⟨(bw_i 811 (by decide +kernel) (by decide +kernel)), (bw_i 30 (by decide +kernel) (by decide +kernel)), by decide, by decide, by decide +kernel⟩
theorem mok_X9_minute : MOK M_X9_minute 0 := ⟨(bw_i 872 (by decide +kernel) (by decide +kernel)), (bw_i 30 (by decide +kernel) (by decide +kernel)), by decide, by decide, by decide +kernel⟩
theorem mok_X9_isOpen : MOK M_X9_isOpen 1 := ⟨(bw_i 816 (by decide +kernel) (by decide +kernel)), (bw_i 30 (by decide +kernel) (by decide +kernel)), by decide, by decide, by decide +kernel⟩
theorem mok_X9_renter : MOK M_X9_renter 1 := ⟨(bw_i 820 (by decide +kernel) (by decide +kernel)), (bw_i 30 (by decide +kernel) (by decide +kernel)), by decide, by decide, by decide +kernel⟩
theorem mok_X9_clock : MOK M_X9_clock 1 := ⟨(bw_i 824 (by decide +kernel) (by decide +kernel)), (bw_i 30 (by decide +kernel) (by decide +kernel)), by decide, by decide, by decide +kernel⟩
theorem mok_X9_frameOn : MOK M_X9_frameOn 1 := ⟨(bw_i 828 (by decide +kernel) (by decide +kernel)), (bw_i 30 (by decide +kernel) (by decide +kernel)), by decide, by decide, by decide +kernel⟩
theorem mok_X9_owes : MOK M_X9_owes 1 := ⟨(bw_i 463 (by decide +kernel) (by decide +kernel)), (bw_i 30 (by decide +kernel) (by decide +kernel)), by decide, by decide, by decide +kernel⟩
theorem mok_X9_owesAnew : MOK M_X9_owesAnew 1 := ⟨(bw_i 467 (by decide +kernel) (by decide +kernel)), (bw_i 30 (by decide +kernel) (by decide +kernel)), by decide, by decide, by decide +kernel⟩
theorem mok_X9_frames : MOK M_X9_frames 0 := ⟨(bw_i 877 (by decide +kernel) (by decide +kernel)), (bw_i 30 (by decide +kernel) (by decide +kernel)), by decide, by decide, by decide +kernel⟩
theorem mok_X9_state : MOK M_X9_state 1 := ⟨(bw_i 508 (by decide +kernel) (by decide +kernel)), (bw_i 30 (by decide +kernel) (by decide +kernel)), by decide, by decide, by decide +kernel⟩
theorem mok_X9_cell : MOK M_X9_cell 2 := ⟨(bw_i 526 (by decide +kernel) (by decide +kernel)), (bw_i 30 (by decide +kernel) (by decide +kernel)), by decide, by decide, by decide +kernel⟩
theorem mok_X9_ballOn : MOK M_X9_ballOn 1 := ⟨(bw_i 844 (by decide +kernel) (by decide +kernel)), (bw_i 30 (by decide +kernel) (by decide +kernel)), by decide, by decide, by decide +kernel⟩
theorem mok_X9_isFree : MOK M_X9_isFree 1 := ⟨(bw_i 849 (by decide +kernel) (by decide +kernel)), (bw_i 30 (by decide +kernel) (by decide +kernel)), by decide, by decide, by decide +kernel⟩
theorem mok_X9_turn : MOK M_X9_turn 1 := ⟨(bw_i 853 (by decide +kernel) (by decide +kernel)), (bw_i 30 (by decide +kernel) (by decide +kernel)), by decide, by decide, by decide +kernel⟩
theorem mok_X9_points : MOK M_X9_points 2 := ⟨(bw_i 857 (by decide +kernel) (by decide +kernel)), (bw_i 30 (by decide +kernel) (by decide +kernel)), by decide, by decide, by decide +kernel⟩
theorem mok_X9_winner : MOK M_X9_winner 1 := ⟨(bw_i 861 (by decide +kernel) (by decide +kernel)), (bw_i 30 (by decide +kernel) (by decide +kernel)), by decide, by decide, by decide +kernel⟩
theorem mok_X9_contacts : MOK M_X9_contacts 3 := ⟨(bw_i 531 (by decide +kernel) (by decide +kernel)), (bw_i 30 (by decide +kernel) (by decide +kernel)), by decide, by decide, by decide +kernel⟩
theorem mok_X9_contactsByPairs : MOK M_X9_contactsByPairs 3 := ⟨(bw_i 624 (by decide +kernel) (by decide +kernel)), (bw_i 30 (by decide +kernel) (by decide +kernel)), by decide, by decide, by decide +kernel⟩
theorem mok_X9_wins : MOK M_X9_wins 1 := ⟨(bw_i 832 (by decide +kernel) (by decide +kernel)), (bw_i 30 (by decide +kernel) (by decide +kernel)), by decide, by decide, by decide +kernel⟩
theorem mok_X9_rank : MOK M_X9_rank 1 := ⟨(bw_i 836 (by decide +kernel) (by decide +kernel)), (bw_i 30 (by decide +kernel) (by decide +kernel)), by decide, by decide, by decide +kernel⟩
theorem mok_X9_wear : MOK M_X9_wear 1 := ⟨(bw_i 628 (by decide +kernel) (by decide +kernel)), (bw_i 30 (by decide +kernel) (by decide +kernel)), by decide, by decide, by decide +kernel⟩
theorem mok_X9_cueOf : MOK M_X9_cueOf 1 := ⟨(bw_i 840 (by decide +kernel) (by decide +kernel)), (bw_i 30 (by decide +kernel) (by decide +kernel)), by decide, by decide, by decide +kernel⟩
theorem mok_X9_force : MOK M_X9_force 2 := ⟨(bw_i 865 (by decide +kernel) (by decide +kernel)), (bw_i 30 (by decide +kernel) (by decide +kernel)), by decide, by decide, by decide +kernel⟩
theorem mok_X9_requireRange : MOK M_X9_requireRange 3 := ⟨(bw_i 214 (by decide +kernel) (by decide +kernel)), (bw_i 30 (by decide +kernel) (by decide +kernel)), by decide, by decide, by decide +kernel⟩
theorem mok_X9_requireCustomer : MOK M_X9_requireCustomer 1 := ⟨(bw_i 329 (by decide +kernel) (by decide +kernel)), (bw_i 30 (by decide +kernel) (by decide +kernel)), by decide, by decide, by decide +kernel⟩
theorem mok_X9_tableAt : MOK M_X9_tableAt 1 := ⟨(bw_i 310 (by decide +kernel) (by decide +kernel)), (bw_i 30 (by decide +kernel) (by decide +kernel)), by decide, by decide, by decide +kernel⟩
theorem mok_X9_cueAt : MOK M_X9_cueAt 1 := ⟨(bw_i 428 (by decide +kernel) (by decide +kernel)), (bw_i 30 (by decide +kernel) (by decide +kernel)), by decide, by decide, by decide +kernel⟩
theorem mok_X9_frameAt : MOK M_X9_frameAt 1 := ⟨(bw_i 512 (by decide +kernel) (by decide +kernel)), (bw_i 30 (by decide +kernel) (by decide +kernel)), by decide, by decide, by decide +kernel⟩
theorem mok_X9_requirePlace : MOK M_X9_requirePlace 4 := ⟨(bw_i 335 (by decide +kernel) (by decide +kernel)), (bw_i 30 (by decide +kernel) (by decide +kernel)), by decide, by decide, by decide +kernel⟩
theorem mok_X9_rentsAny : MOK M_X9_rentsAny 1 := ⟨(bw_i 646 (by decide +kernel) (by decide +kernel)), (bw_i 30 (by decide +kernel) (by decide +kernel)), by decide, by decide, by decide +kernel⟩
theorem mok_X9_rentedTables : MOK M_X9_rentedTables 0 := ⟨(bw_i 678 (by decide +kernel) (by decide +kernel)), (bw_i 30 (by decide +kernel) (by decide +kernel)), by decide, by decide, by decide +kernel⟩
theorem mok_X9_openTables : MOK M_X9_openTables 0 := ⟨(bw_i 713 (by decide +kernel) (by decide +kernel)), (bw_i 30 (by decide +kernel) (by decide +kernel)), by decide, by decide, by decide +kernel⟩
theorem mok_X9_endRental : MOK M_X9_endRental 1 := ⟨(bw_i 687 (by decide +kernel) (by decide +kernel)), (bw_i 30 (by decide +kernel) (by decide +kernel)), by decide, by decide, by decide +kernel⟩
theorem mok_X9_billFor : MOK M_X9_billFor 2 := ⟨(bw_i 492 (by decide +kernel) (by decide +kernel)), (bw_i 30 (by decide +kernel) (by decide +kernel)), by decide, by decide, by decide +kernel⟩
theorem mok_X9_addDebt : MOK M_X9_addDebt 2 := ⟨(bw_i 459 (by decide +kernel) (by decide +kernel)), (bw_i 30 (by decide +kernel) (by decide +kernel)), by decide, by decide, by decide +kernel⟩
theorem mok_X9_billsAnew : MOK M_X9_billsAnew 1 := ⟨(bw_i 471 (by decide +kernel) (by decide +kernel)), (bw_i 30 (by decide +kernel) (by decide +kernel)), by decide, by decide, by decide +kernel⟩
theorem mok_X9_leagueMinutes : MOK M_X9_leagueMinutes 1 := ⟨(bw_i 479 (by decide +kernel) (by decide +kernel)), (bw_i 30 (by decide +kernel) (by decide +kernel)), by decide, by decide, by decide +kernel⟩
theorem mok_X9_depositsAnew : MOK M_X9_depositsAnew 1 := ⟨(bw_i 496 (by decide +kernel) (by decide +kernel)), (bw_i 30 (by decide +kernel) (by decide +kernel)), by decide, by decide, by decide +kernel⟩
theorem mok_X9_putFrameOn : MOK M_X9_putFrameOn 3 := ⟨(bw_i 404 (by decide +kernel) (by decide +kernel)), (bw_i 30 (by decide +kernel) (by decide +kernel)), by decide, by decide, by decide +kernel⟩
theorem mok_X9_takeFrameOff : MOK M_X9_takeFrameOff 1 := ⟨(bw_i 695 (by decide +kernel) (by decide +kernel)), (bw_i 30 (by decide +kernel) (by decide +kernel)), by decide, by decide, by decide +kernel⟩
theorem mok_X9_countWin : MOK M_X9_countWin 1 := ⟨(bw_i 798 (by decide +kernel) (by decide +kernel)), (bw_i 30 (by decide +kernel) (by decide +kernel)), by decide, by decide, by decide +kernel⟩
theorem mok_X9_cueHeldBy : MOK M_X9_cueHeldBy 1 := ⟨(bw_i 433 (by decide +kernel) (by decide +kernel)), (bw_i 30 (by decide +kernel) (by decide +kernel)), by decide, by decide, by decide +kernel⟩
theorem mok_X9_forceWith : MOK M_X9_forceWith 2 := ⟨(bw_i 730 (by decide +kernel) (by decide +kernel)), (bw_i 30 (by decide +kernel) (by decide +kernel)), by decide, by decide, by decide +kernel⟩
theorem mok_X9_contactsOf : MOK M_X9_contactsOf 4 := ⟨(bw_i 535 (by decide +kernel) (by decide +kernel)), (bw_i 30 (by decide +kernel) (by decide +kernel)), by decide, by decide, by decide +kernel⟩
theorem mok_X9_cellBeside : MOK M_X9_cellBeside 2 := ⟨(bw_i 569 (by decide +kernel) (by decide +kernel)), (bw_i 30 (by decide +kernel) (by decide +kernel)), by decide, by decide, by decide +kernel⟩
theorem mok_X9_isColumn : MOK M_X9_isColumn 1 := ⟨(bw_i 576 (by decide +kernel) (by decide +kernel)), (bw_i 30 (by decide +kernel) (by decide +kernel)), by decide, by decide, by decide +kernel⟩
theorem mok_X9_isRow : MOK M_X9_isRow 1 := ⟨(bw_i 579 (by decide +kernel) (by decide +kernel)), (bw_i 30 (by decide +kernel) (by decide +kernel)), by decide, by decide, by decide +kernel⟩
theorem mok_X9_isPocket : MOK M_X9_isPocket 1 := ⟨(bw_i 609 (by decide +kernel) (by decide +kernel)), (bw_i 30 (by decide +kernel) (by decide +kernel)), by decide, by decide, by decide +kernel⟩
theorem mok_X9_turnedBack : MOK M_X9_turnedBack 2 := ⟨(bw_i 582 (by decide +kernel) (by decide +kernel)), (bw_i 30 (by decide +kernel) (by decide +kernel)), by decide, by decide, by decide +kernel⟩
theorem mok_X0_init : MOK M_X0_init 0 := ⟨(bw_i 71 (by decide +kernel) (by decide +kernel)), (bw_i 32 (by decide +kernel) (by decide +kernel)), by decide, by decide, by decide +kernel⟩
theorem mok_X0_lay : MOK M_X0_lay 0 := ⟨(bw_i 547 (by decide +kernel) (by decide +kernel)), (bw_i 32 (by decide +kernel) (by decide +kernel)), by decide, by decide, by decide +kernel⟩
theorem mok_X0_ballBeside : MOK M_X0_ballBeside 2 := ⟨(bw_i 588 (by decide +kernel) (by decide +kernel)), (bw_i 32 (by decide +kernel) (by decide +kernel)), by decide, by decide, by decide +kernel⟩
theorem mok_X0_note : MOK M_X0_note 3 := ⟨(bw_i 617 (by decide +kernel) (by decide +kernel)), (bw_i 32 (by decide +kernel) (by decide +kernel)), by decide, by decide, by decide +kernel⟩
theorem mok_X0_put : MOK M_X0_put 2 := ⟨(bw_i 551 (by decide +kernel) (by decide +kernel)), (bw_i 32 (by decide +kernel) (by decide +kernel)), by decide, by decide, by decide +kernel⟩
theorem mok_X1_init : MOK M_X1_init 0 := ⟨(bw_i 148 (by decide +kernel) (by decide +kernel)), (bw_i 35 (by decide +kernel) (by decide +kernel)), by decide, by decide, by decide +kernel⟩
theorem mok_X1_isHeldBy : MOK M_X1_isHeldBy 1 := ⟨(bw_i 437 (by decide +kernel) (by decide +kernel)), (bw_i 35 (by decide +kernel) (by decide +kernel)), by decide, by decide, by decide +kernel⟩
theorem mok_X1_wearOff : MOK M_X1_wearOff 1 := ⟨(bw_i 735 (by decide +kernel) (by decide +kernel)), (bw_i 35 (by decide +kernel) (by decide +kernel)), by decide, by decide, by decide +kernel⟩
theorem mok_X2_init : MOK M_X2_init 4 := ⟨(bw_i 345 (by decide +kernel) (by decide +kernel)), (bw_i 43 (by decide +kernel) (by decide +kernel)), by decide, by decide, by decide +kernel⟩
theorem mok_X2_player : MOK M_X2_player 0 := ⟨(bw_i 722 (by decide +kernel) (by decide +kernel)), (bw_i 43 (by decide +kernel) (by decide +kernel)), by decide, by decide, by decide +kernel⟩
theorem mok_X2_isOver : MOK M_X2_isOver 0 := ⟨(bw_i 517 (by decide +kernel) (by decide +kernel)), (bw_i 43 (by decide +kernel) (by decide +kernel)), by decide, by decide, by decide +kernel⟩
theorem mok_X2_isWaiting : MOK M_X2_isWaiting 0 := ⟨(bw_i 521 (by decide +kernel) (by decide +kernel)), (bw_i 43 (by decide +kernel) (by decide +kernel)), by decide, by decide, by decide +kernel⟩
theorem mok_X2_lowestBall : MOK M_X2_lowestBall 0 := ⟨(bw_i 744 (by decide +kernel) (by decide +kernel)), (bw_i 43 (by decide +kernel) (by decide +kernel)), by decide, by decide, by decide +kernel⟩
theorem mok_X2_settle : MOK M_X2_settle 1 := ⟨(bw_i 740 (by decide +kernel) (by decide +kernel)), (bw_i 43 (by decide +kernel) (by decide +kernel)), by decide, by decide, by decide +kernel⟩
theorem mok_X2_isFoul : MOK M_X2_isFoul 2 := ⟨(bw_i 748 (by decide +kernel) (by decide +kernel)), (bw_i 43 (by decide +kernel) (by decide +kernel)), by decide, by decide, by decide +kernel⟩
theorem mok_X2_settleFair : MOK M_X2_settleFair 1 := ⟨(bw_i 783 (by decide +kernel) (by decide +kernel)), (bw_i 43 (by decide +kernel) (by decide +kernel)), by decide, by decide, by decide +kernel⟩
theorem mok_X2_settleFoul : MOK M_X2_settleFoul 2 := ⟨(bw_i 752 (by decide +kernel) (by decide +kernel)), (bw_i 43 (by decide +kernel) (by decide +kernel)), by decide, by decide, by decide +kernel⟩
theorem mok_X2_addPoints : MOK M_X2_addPoints 2 := ⟨(bw_i 757 (by decide +kernel) (by decide +kernel)), (bw_i 43 (by decide +kernel) (by decide +kernel)), by decide, by decide, by decide +kernel⟩
theorem mok_X2_leader : MOK M_X2_leader 0 := ⟨(bw_i 793 (by decide +kernel) (by decide +kernel)), (bw_i 43 (by decide +kernel) (by decide +kernel)), by decide, by decide, by decide +kernel⟩
theorem mok_X2_comeBack : MOK M_X2_comeBack 1 := ⟨(bw_i 761 (by decide +kernel) (by decide +kernel)), (bw_i 43 (by decide +kernel) (by decide +kernel)), by decide, by decide, by decide +kernel⟩
theorem mok_X2_lowestEmptyCell : MOK M_X2_lowestEmptyCell 0 := ⟨(bw_i 769 (by decide +kernel) (by decide +kernel)), (bw_i 43 (by decide +kernel) (by decide +kernel)), by decide, by decide, by decide +kernel⟩
theorem mok_X2_ballIn : MOK M_X2_ballIn 1 := ⟨(bw_i 765 (by decide +kernel) (by decide +kernel)), (bw_i 43 (by decide +kernel) (by decide +kernel)), by decide, by decide, by decide +kernel⟩
theorem mok_X2_isHidden : MOK M_X2_isHidden 1 := ⟨(bw_i 774 (by decide +kernel) (by decide +kernel)), (bw_i 43 (by decide +kernel) (by decide +kernel)), by decide, by decide, by decide +kernel⟩
theorem mok_X2_firstBallFromWhite : MOK M_X2_firstBallFromWhite 1 := ⟨(bw_i 778 (by decide +kernel) (by decide +kernel)), (bw_i 43 (by decide +kernel) (by decide +kernel)), by decide, by decide, by decide +kernel⟩
theorem mok_X3_init : MOK M_X3_init 2 := ⟨(bw_i 442 (by decide +kernel) (by decide +kernel)), (bw_i 46 (by decide +kernel) (by decide +kernel)), by decide, by decide, by decide +kernel⟩
theorem mok_X3_close : MOK M_X3_close 1 := ⟨(bw_i 807 (by decide +kernel) (by decide +kernel)), (bw_i 46 (by decide +kernel) (by decide +kernel)), by decide, by decide, by decide +kernel⟩
theorem mok_X3_isClosed : MOK M_X3_isClosed 0 := ⟨(bw_i 500 (by decide +kernel) (by decide +kernel)), (bw_i 46 (by decide +kernel) (by decide +kernel)), by decide, by decide, by decide +kernel⟩
theorem mok_X3_coinsKept : MOK M_X3_coinsKept 0 := ⟨(bw_i 504 (by decide +kernel) (by decide +kernel)), (bw_i 46 (by decide +kernel) (by decide +kernel)), by decide, by decide, by decide +kernel⟩
theorem mok_X4_init : MOK M_X4_init 0 := ⟨(bw_i 112 (by decide +kernel) (by decide +kernel)), (bw_i 33 (by decide +kernel) (by decide +kernel)), by decide, by decide, by decide +kernel⟩
theorem mok_X4_lay : MOK M_X4_lay 0 := ⟨(bw_i 554 (by decide +kernel) (by decide +kernel)), (bw_i 33 (by decide +kernel) (by decide +kernel)), by decide, by decide, by decide +kernel⟩
theorem mok_X4_ballBeside : MOK M_X4_ballBeside 2 := ⟨(bw_i 592 (by decide +kernel) (by decide +kernel)), (bw_i 33 (by decide +kernel) (by decide +kernel)), by decide, by decide, by decide +kernel⟩
theorem mok_X4_note : MOK M_X4_note 3 := ⟨(bw_i 620 (by decide +kernel) (by decide +kernel)), (bw_i 33 (by decide +kernel) (by decide +kernel)), by decide, by decide, by decide +kernel⟩
theorem mok_X4_isBeside : MOK M_X4_isBeside 3 := ⟨(bw_i 596 (by decide +kernel) (by decide +kernel)), (bw_i 33 (by decide +kernel) (by decide +kernel)), by decide, by decide, by decide +kernel⟩
theorem mok_X5_init : MOK M_X5_init 3 := ⟨(bw_i 651 (by decide +kernel) (by decide +kernel)), (bw_i 42 (by decide +kernel) (by decide +kernel)), by decide, by decide, by decide +kernel⟩
theorem mok_X5_close : MOK M_X5_close 2 := ⟨(bw_i 691 (by decide +kernel) (by decide +kernel)), (bw_i 42 (by decide +kernel) (by decide +kernel)), by decide, by decide, by decide +kernel⟩
theorem mok_X5_isClosed : MOK M_X5_isClosed 0 := ⟨(bw_i 475 (by decide +kernel) (by decide +kernel)), (bw_i 42 (by decide +kernel) (by decide +kernel)), by decide, by decide, by decide +kernel⟩
theorem mok_X6_init : MOK M_X6_init 0 := ⟨(bw_i 74 (by decide +kernel) (by decide +kernel)), (bw_i 31 (by decide +kernel) (by decide +kernel)), by decide, by decide, by decide +kernel⟩
theorem mok_X6_run : MOK M_X6_run 3 := ⟨(bw_i 541 (by decide +kernel) (by decide +kernel)), (bw_i 31 (by decide +kernel) (by decide +kernel)), by decide, by decide, by decide +kernel⟩
theorem mok_X6_droppedNumbers : MOK M_X6_droppedNumbers 0 := ⟨(bw_i 789 (by decide +kernel) (by decide +kernel)), (bw_i 31 (by decide +kernel) (by decide +kernel)), by decide, by decide, by decide +kernel⟩
theorem mok_X6_isSomeRolling : MOK M_X6_isSomeRolling 0 := ⟨(bw_i 558 (by decide +kernel) (by decide +kernel)), (bw_i 31 (by decide +kernel) (by decide +kernel)), by decide, by decide, by decide +kernel⟩
theorem mok_X6_isRolling : MOK M_X6_isRolling 1 := ⟨(bw_i 562 (by decide +kernel) (by decide +kernel)), (bw_i 31 (by decide +kernel) (by decide +kernel)), by decide, by decide, by decide +kernel⟩
theorem mok_X6_act : MOK M_X6_act 1 := ⟨(bw_i 566 (by decide +kernel) (by decide +kernel)), (bw_i 31 (by decide +kernel) (by decide +kernel)), by decide, by decide, by decide +kernel⟩
theorem mok_X6_meet : MOK M_X6_meet 2 := ⟨(bw_i 602 (by decide +kernel) (by decide +kernel)), (bw_i 31 (by decide +kernel) (by decide +kernel)), by decide, by decide, by decide +kernel⟩
theorem mok_X6_roll : MOK M_X6_roll 2 := ⟨(bw_i 606 (by decide +kernel) (by decide +kernel)), (bw_i 31 (by decide +kernel) (by decide +kernel)), by decide, by decide, by decide +kernel⟩
theorem mok_X7_init : MOK M_X7_init 2 := ⟨(bw_i 408 (by decide +kernel) (by decide +kernel)), (bw_i 44 (by decide +kernel) (by decide +kernel)), by decide, by decide, by decide +kernel⟩
theorem mok_X7_close : MOK M_X7_close 1 := ⟨(bw_i 699 (by decide +kernel) (by decide +kernel)), (bw_i 44 (by decide +kernel) (by decide +kernel)), by decide, by decide, by decide +kernel⟩
theorem mok_X7_minutesWithin : MOK M_X7_minutesWithin 2 := ⟨(bw_i 483 (by decide +kernel) (by decide +kernel)), (bw_i 44 (by decide +kernel) (by decide +kernel)), by decide, by decide, by decide +kernel⟩
theorem mok_X8_init : MOK M_X8_init 0 := ⟨(bw_i 124 (by decide +kernel) (by decide +kernel)), (bw_i 34 (by decide +kernel) (by decide +kernel)), by decide, by decide, by decide +kernel⟩
theorem mok_X8_isRentedBy : MOK M_X8_isRentedBy 1 := ⟨(bw_i 340 (by decide +kernel) (by decide +kernel)), (bw_i 34 (by decide +kernel) (by decide +kernel)), by decide, by decide, by decide +kernel⟩
theorem mok_X8_isCounting : MOK M_X8_isCounting 0 := ⟨(bw_i 302 (by decide +kernel) (by decide +kernel)), (bw_i 34 (by decide +kernel) (by decide +kernel)), by decide, by decide, by decide +kernel⟩
theorem mok_L_act : MOW M_L_act 5 := ⟨(bw_i 631 (by decide +kernel) (by decide +kernel)), (bw_i 29 (by decide +kernel) (by decide +kernel)), by decide, by decide, by decide +kernel⟩
theorem mok_L_refuses : MOK M_L_refuses 2 := ⟨(bw_in (tb_4 (i := 119) rfl) (by decide +kernel)), (bw_i 29 (by decide +kernel) (by decide +kernel)), by decide, by decide, by decide +kernel⟩
theorem mok_L_owe : MOK M_L_owe 3 := ⟨(bw_i 883 (by decide +kernel) (by decide +kernel)), (bw_i 29 (by decide +kernel) (by decide +kernel)), by decide, by decide, by decide +kernel⟩
theorem mok_L_tables : MOK M_L_tables 0 := ⟨(bw_in (tb_4 (i := 131) rfl) (by decide +kernel)), (bw_i 29 (by decide +kernel) (by decide +kernel)), by decide, by decide, by decide +kernel⟩
theorem mok_L_bed : MOK M_L_bed 8 := ⟨(bw_i 889 (by decide +kernel) (by decide +kernel)), (bw_i 29 (by decide +kernel) (by decide +kernel)), by decide, by decide, by decide +kernel⟩
theorem mok_L_frame : MOK M_L_frame 7 := ⟨(bw_i 892 (by decide +kernel) (by decide +kernel)), (bw_i 29 (by decide +kernel) (by decide +kernel)), by decide, by decide, by decide +kernel⟩
theorem mok_L_meets : MOK M_L_meets 5 := ⟨(bw_i 895 (by decide +kernel) (by decide +kernel)), (bw_i 29 (by decide +kernel) (by decide +kernel)), by decide, by decide, by decide +kernel⟩
theorem mok_L_shots : MOK M_L_shots 0 := ⟨(bw_in (tb_4 (i := 137) rfl) (by decide +kernel)), (bw_i 29 (by decide +kernel) (by decide +kernel)), by decide, by decide, by decide +kernel⟩
theorem lo_X9_1 : Cond.methodLink "BaulkHall" 1 Lib.objectInit ∈ BW := (bw_i 52 (by decide +kernel) (by decide +kernel))
theorem lk_X9_54 : LkNI "BaulkHall" 54 "BaulkHall" M_X0_init := ⟨by decide +kernel, (bw_i 70 (by decide +kernel) (by decide +kernel)), rfl, rfl⟩
theorem lk_X9_61 : LkNI "BaulkHall" 61 "BaulkHall" M_X4_init := ⟨by decide +kernel, (bw_i 111 (by decide +kernel) (by decide +kernel)), rfl, rfl⟩
theorem lk_X9_69 : LkNI "BaulkHall" 69 "BaulkHall" M_X8_init := ⟨by decide +kernel, (bw_i 123 (by decide +kernel) (by decide +kernel)), rfl, rfl⟩
theorem lk_X9_70 : LkNI "BaulkHall" 70 "BaulkHall" M_X1_init := ⟨by decide +kernel, (bw_i 147 (by decide +kernel) (by decide +kernel)), rfl, rfl⟩
theorem cl_X9_9 : Cond.classLink "BaulkHall" 9 "BaulkHall$Table" ∈ BW := (bw_i 55 (by decide +kernel) (by decide +kernel))
theorem wP_17 : Cond.arrayOver (.object (eC 17)) ∈ XW := by decide +kernel
theorem fl_X9_11 : FL "BaulkHall" 11 8 0 := fl_intro "BaulkHall" rfl (by decide) (by decide) (bw_i 159 (by decide +kernel) (by decide +kernel)) (Or.inl rfl)
theorem ff_X9_8_0 : FF "BaulkHall" 8 0 := fun _ _ h => by cases h; exact ⟨rfl, rfl⟩
theorem cl_X9_15 : Cond.classLink "BaulkHall" 15 "BaulkHall$Cue" ∈ BW := (bw_i 57 (by decide +kernel) (by decide +kernel))
theorem wP_12 : Cond.arrayOver (.object (eC 12)) ∈ XW := by decide +kernel
theorem fl_X9_17 : FL "BaulkHall" 17 8 1 := fl_intro "BaulkHall" rfl (by decide) (by decide) (bw_i 160 (by decide +kernel) (by decide +kernel)) (Or.inl rfl)
theorem ff_X9_8_1 : FF "BaulkHall" 8 1 := fun _ _ h => by cases h; exact ⟨rfl, rfl⟩
theorem cl_X9_21 : Cond.classLink "BaulkHall" 21 "BaulkHall$Frame" ∈ BW := (bw_i 59 (by decide +kernel) (by decide +kernel))
theorem wP_13 : Cond.arrayOver (.object (eC 13)) ∈ XW := by decide +kernel
theorem fl_X9_23 : FL "BaulkHall" 23 8 2 := fl_intro "BaulkHall" rfl (by decide) (by decide) (bw_i 161 (by decide +kernel) (by decide +kernel)) (Or.inl rfl)
theorem ff_X9_8_2 : FF "BaulkHall" 8 2 := fun _ _ h => by cases h; exact ⟨rfl, rfl⟩
theorem cl_X9_27 : Cond.classLink "BaulkHall" 27 "BaulkHall$Rental" ∈ BW := (bw_i 61 (by decide +kernel) (by decide +kernel))
theorem wP_15 : Cond.arrayOver (.object (eC 15)) ∈ XW := by decide +kernel
theorem fl_X9_29 : FL "BaulkHall" 29 8 3 := fl_intro "BaulkHall" rfl (by decide) (by decide) (bw_i 162 (by decide +kernel) (by decide +kernel)) (Or.inl rfl)
theorem ff_X9_8_3 : FF "BaulkHall" 8 3 := fun _ _ h => by cases h; exact ⟨rfl, rfl⟩
theorem cl_X9_33 : Cond.classLink "BaulkHall" 33 "BaulkHall$Stay" ∈ BW := (bw_i 63 (by decide +kernel) (by decide +kernel))
theorem wP_16 : Cond.arrayOver (.object (eC 16)) ∈ XW := by decide +kernel
theorem fl_X9_35 : FL "BaulkHall" 35 8 4 := fl_intro "BaulkHall" rfl (by decide) (by decide) (bw_i 163 (by decide +kernel) (by decide +kernel)) (Or.inl rfl)
theorem ff_X9_8_4 : FF "BaulkHall" 8 4 := fun _ _ h => by cases h; exact ⟨rfl, rfl⟩
theorem cl_X9_39 : Cond.classLink "BaulkHall" 39 "BaulkHall$Loan" ∈ BW := (bw_i 65 (by decide +kernel) (by decide +kernel))
theorem wP_14 : Cond.arrayOver (.object (eC 14)) ∈ XW := by decide +kernel
theorem fl_X9_41 : FL "BaulkHall" 41 8 5 := fl_intro "BaulkHall" rfl (by decide) (by decide) (bw_i 164 (by decide +kernel) (by decide +kernel)) (Or.inl rfl)
theorem ff_X9_8_5 : FF "BaulkHall" 8 5 := fun _ _ h => by cases h; exact ⟨rfl, rfl⟩
theorem fl_X9_45 : FL "BaulkHall" 45 8 6 := fl_intro "BaulkHall" rfl (by decide) (by decide) (bw_i 165 (by decide +kernel) (by decide +kernel)) (Or.inl rfl)
theorem ff_X9_8_6 : FF "BaulkHall" 8 6 := fun _ _ h => by cases h; exact ⟨rfl, rfl⟩
theorem fl_X9_49 : FL "BaulkHall" 49 8 7 := fl_intro "BaulkHall" rfl (by decide) (by decide) (bw_i 166 (by decide +kernel) (by decide +kernel)) (Or.inl rfl)
theorem ff_X9_8_7 : FF "BaulkHall" 8 7 := fun _ _ h => by cases h; exact ⟨rfl, rfl⟩
theorem cl_X9_52 : Cond.classLink "BaulkHall" 52 "BaulkHall$BoardRoll" ∈ BW := (bw_i 67 (by decide +kernel) (by decide +kernel))
theorem wN_0 : Cond.instantiable (cN 0) (nf 0) ∈ BW ∧ Cond.initialized (cN 0) ∈ BW := ⟨(bw_i 68 (by decide +kernel) (by decide +kernel)), (bw_i 32 (by decide +kernel) (by decide +kernel))⟩
theorem fl_X9_55 : FL "BaulkHall" 55 8 8 := fl_intro "BaulkHall" rfl (by decide) (by decide) (bw_i 167 (by decide +kernel) (by decide +kernel)) (Or.inl rfl)
theorem ff_X9_8_8 : FF "BaulkHall" 8 8 := fun _ _ h => by cases h; exact ⟨rfl, rfl⟩
theorem cl_X9_59 : Cond.classLink "BaulkHall" 59 "BaulkHall$PairsRoll" ∈ BW := (bw_i 108 (by decide +kernel) (by decide +kernel))
theorem wN_4 : Cond.instantiable (cN 4) (nf 4) ∈ BW ∧ Cond.initialized (cN 4) ∈ BW := ⟨(bw_i 109 (by decide +kernel) (by decide +kernel)), (bw_i 33 (by decide +kernel) (by decide +kernel))⟩
theorem fl_X9_62 : FL "BaulkHall" 62 8 9 := fl_intro "BaulkHall" rfl (by decide) (by decide) (bw_i 168 (by decide +kernel) (by decide +kernel)) (Or.inl rfl)
theorem ff_X9_8_9 : FF "BaulkHall" 8 9 := fun _ _ h => by cases h; exact ⟨rfl, rfl⟩
theorem fl_X9_65 : FL "BaulkHall" 65 8 14 := fl_intro "BaulkHall" rfl (by decide) (by decide) (bw_i 173 (by decide +kernel) (by decide +kernel)) (Or.inl rfl)
theorem fw_8_14 : FW 8 14 := fun _ _ h => by cases h; rfl
theorem wN_7 : Cond.instantiable (cN 7) (nf 7) ∈ BW ∧ Cond.initialized (cN 7) ∈ BW := ⟨(bw_i 121 (by decide +kernel) (by decide +kernel)), (bw_i 34 (by decide +kernel) (by decide +kernel))⟩
theorem wN_1 : Cond.instantiable (cN 1) (nf 1) ∈ BW ∧ Cond.initialized (cN 1) ∈ BW := ⟨(bw_i 145 (by decide +kernel) (by decide +kernel)), (bw_i 35 (by decide +kernel) (by decide +kernel))⟩
theorem lk_X9_71 : LkS "BaulkHall" 71 M_X9_requireRange := ⟨(bw_i 212 (by decide +kernel) (by decide +kernel)), (bw_i 213 (by decide +kernel) (by decide +kernel))⟩
theorem lk_X9_75 : LkV "BaulkHall" 75 M_X9_tableAt := ⟨(bw_i 307 (by decide +kernel) (by decide +kernel)), (bw_i 309 (by decide +kernel) (by decide +kernel)), (bw_i 1 (by decide +kernel) (by decide +kernel))⟩
theorem lk_X9_79 : LkS "BaulkHall" 79 M_X9_requireCustomer := ⟨(bw_i 327 (by decide +kernel) (by decide +kernel)), (bw_i 328 (by decide +kernel) (by decide +kernel))⟩
theorem lk_X9_91 : LkV "BaulkHall" 91 M_X9_rentsAny := ⟨(bw_i 643 (by decide +kernel) (by decide +kernel)), (bw_i 645 (by decide +kernel) (by decide +kernel)), (bw_i 13 (by decide +kernel) (by decide +kernel))⟩
theorem lk_X9_105 : LkI "BaulkHall" 105 M_X5_init := ⟨(bw_i 649 (by decide +kernel) (by decide +kernel)), (bw_i 650 (by decide +kernel) (by decide +kernel)), rfl, rfl⟩
theorem lk_X9_113 : LkV "BaulkHall" 113 M_X9_rentedTables := ⟨(bw_i 675 (by decide +kernel) (by decide +kernel)), (bw_i 677 (by decide +kernel) (by decide +kernel)), (bw_i 14 (by decide +kernel) (by decide +kernel))⟩
theorem fl_X9_83 : FL "BaulkHall" 83 7 0 := fl_intro "BaulkHall$Table" rfl (by decide) (by decide) (bw_i 127 (by decide +kernel) (by decide +kernel)) (Or.inl rfl)
theorem fl_X9_87 : FL "BaulkHall" 87 7 1 := fl_intro "BaulkHall$Table" rfl (by decide) (by decide) (bw_i 129 (by decide +kernel) (by decide +kernel)) (Or.inl rfl)
theorem cl_X9_95 : Cond.classLink "BaulkHall" 95 "java/lang/IllegalStateException" ∈ BW := (bw_i 283 (by decide +kernel) (by decide +kernel))
theorem wN_5 : Cond.instantiable (cN 5) (nf 5) ∈ BW ∧ Cond.initialized (cN 5) ∈ BW := ⟨(bw_i 648 (by decide +kernel) (by decide +kernel)), (bw_i 42 (by decide +kernel) (by decide +kernel))⟩
theorem fl_X9_102 : FL "BaulkHall" 102 8 15 := fl_intro "BaulkHall" rfl (by decide) (by decide) (bw_i 174 (by decide +kernel) (by decide +kernel)) (Or.inl rfl)
theorem fw_7_1 : FW 7 1 := fun _ _ h => by cases h; rfl
theorem fl_X9_107 : FL "BaulkHall" 107 7 2 := fl_intro "BaulkHall$Table" rfl (by decide) (by decide) (bw_i 130 (by decide +kernel) (by decide +kernel)) (Or.inl rfl)
theorem fw_7_2 : FW 7 2 := fun _ _ h => by cases h; rfl
theorem fl_X9_110 : FL "BaulkHall" 110 8 11 := fl_intro "BaulkHall" rfl (by decide) (by decide) (bw_i 170 (by decide +kernel) (by decide +kernel)) (Or.inl rfl)
theorem fw_8_11 : FW 8 11 := fun _ _ h => by cases h; rfl
theorem tw_X9_97 : TW "BaulkHall" "java/lang/IllegalStateException" 95 97 99 := tw_mk (by decide +kernel) (bw_i 283 (by decide +kernel) (by decide +kernel)) (bw_i 41 (by decide +kernel) (by decide +kernel)) (by decide +kernel) (by decide +kernel) (by decide +kernel) (by decide +kernel)
theorem lk_X9_119 : LkV "BaulkHall" 119 M_X9_endRental := ⟨(bw_i 684 (by decide +kernel) (by decide +kernel)), (bw_i 686 (by decide +kernel) (by decide +kernel)), (bw_i 15 (by decide +kernel) (by decide +kernel))⟩
theorem tw_X9_117 : TW "BaulkHall" "java/lang/IllegalStateException" 95 117 99 := tw_mk (by decide +kernel) (bw_i 283 (by decide +kernel) (by decide +kernel)) (bw_i 41 (by decide +kernel) (by decide +kernel)) (by decide +kernel) (by decide +kernel) (by decide +kernel) (by decide +kernel)
theorem lk_X9_125 : LkV "BaulkHall" 125 M_X9_takeFrameOff := ⟨(bw_i 692 (by decide +kernel) (by decide +kernel)), (bw_i 694 (by decide +kernel) (by decide +kernel)), (bw_i 16 (by decide +kernel) (by decide +kernel))⟩
theorem fw_7_0 : FW 7 0 := fun _ _ h => by cases h; rfl
theorem tw_X9_123 : TW "BaulkHall" "java/lang/IllegalStateException" 95 123 99 := tw_mk (by decide +kernel) (bw_i 283 (by decide +kernel) (by decide +kernel)) (bw_i 41 (by decide +kernel) (by decide +kernel)) (by decide +kernel) (by decide +kernel) (by decide +kernel) (by decide +kernel)
theorem lk_X9_131 : LkV "BaulkHall" 131 M_X9_openTables := ⟨(bw_i 710 (by decide +kernel) (by decide +kernel)), (bw_i 712 (by decide +kernel) (by decide +kernel)), (bw_i 17 (by decide +kernel) (by decide +kernel))⟩
theorem tw_X9_129 : TW "BaulkHall" "java/lang/IllegalStateException" 95 129 99 := tw_mk (by decide +kernel) (bw_i 283 (by decide +kernel) (by decide +kernel)) (bw_i 41 (by decide +kernel) (by decide +kernel)) (by decide +kernel) (by decide +kernel) (by decide +kernel) (by decide +kernel)
theorem lk_X9_136 : LkV "BaulkHall" 136 M_X8_isCounting := ⟨(bw_i 299 (by decide +kernel) (by decide +kernel)), (bw_i 300 (by decide +kernel) (by decide +kernel)), (bw_i 301 (by decide +kernel) (by decide +kernel))⟩
theorem fw_8_15 : FW 8 15 := fun _ _ h => by cases h; rfl
theorem tw_X9_134 : TW "BaulkHall" "java/lang/IllegalStateException" 95 134 99 := tw_mk (by decide +kernel) (bw_i 283 (by decide +kernel) (by decide +kernel)) (bw_i 41 (by decide +kernel) (by decide +kernel)) (by decide +kernel) (by decide +kernel) (by decide +kernel) (by decide +kernel)
theorem lk_X9_150 : LkS "BaulkHall" 150 M_X9_requirePlace := ⟨(bw_i 333 (by decide +kernel) (by decide +kernel)), (bw_i 334 (by decide +kernel) (by decide +kernel))⟩
theorem lk_X9_154 : LkI "BaulkHall" 154 M_X2_init := ⟨(bw_i 343 (by decide +kernel) (by decide +kernel)), (bw_i 344 (by decide +kernel) (by decide +kernel)), rfl, rfl⟩
theorem lk_X9_157 : LkV "BaulkHall" 157 M_X9_putFrameOn := ⟨(bw_i 401 (by decide +kernel) (by decide +kernel)), (bw_i 403 (by decide +kernel) (by decide +kernel)), (bw_i 2 (by decide +kernel) (by decide +kernel))⟩
theorem cl_X9_140 : Cond.classLink "BaulkHall" 140 "java/lang/IllegalArgumentException" ∈ BW := (bw_i 215 (by decide +kernel) (by decide +kernel))
theorem fl_X9_145 : FL "BaulkHall" 145 8 10 := fl_intro "BaulkHall" rfl (by decide) (by decide) (bw_i 169 (by decide +kernel) (by decide +kernel)) (Or.inl rfl)
theorem wN_2 : Cond.instantiable (cN 2) (nf 2) ∈ BW ∧ Cond.initialized (cN 2) ∈ BW := ⟨(bw_i 342 (by decide +kernel) (by decide +kernel)), (bw_i 43 (by decide +kernel) (by decide +kernel))⟩
theorem fw_8_10 : FW 8 10 := fun _ _ h => by cases h; rfl
theorem fl_X9_161 : FL "BaulkHall" 161 2 0 := fl_intro "BaulkHall$Frame" rfl (by decide) (by decide) (bw_i 357 (by decide +kernel) (by decide +kernel)) (Or.inl rfl)
theorem tw_X9_142 : TW "BaulkHall" "java/lang/IllegalArgumentException" 140 142 144 := tw_mk (by decide +kernel) (bw_i 215 (by decide +kernel) (by decide +kernel)) (bw_i 40 (by decide +kernel) (by decide +kernel)) (by decide +kernel) (by decide +kernel) (by decide +kernel) (by decide +kernel)
theorem tw_X9_148 : TW "BaulkHall" "java/lang/IllegalStateException" 95 148 99 := tw_mk (by decide +kernel) (bw_i 283 (by decide +kernel) (by decide +kernel)) (bw_i 41 (by decide +kernel) (by decide +kernel)) (by decide +kernel) (by decide +kernel) (by decide +kernel) (by decide +kernel)
theorem lk_X9_164 : LkV "BaulkHall" 164 M_X9_frameAt := ⟨(bw_i 509 (by decide +kernel) (by decide +kernel)), (bw_i 511 (by decide +kernel) (by decide +kernel)), (bw_i 9 (by decide +kernel) (by decide +kernel))⟩
theorem lk_X9_168 : LkV "BaulkHall" 168 M_X2_isWaiting := ⟨(bw_i 518 (by decide +kernel) (by decide +kernel)), (bw_i 519 (by decide +kernel) (by decide +kernel)), (bw_i 520 (by decide +kernel) (by decide +kernel))⟩
theorem lk_X9_182 : LkV "BaulkHall" 182 M_X2_player := ⟨(bw_i 719 (by decide +kernel) (by decide +kernel)), (bw_i 720 (by decide +kernel) (by decide +kernel)), (bw_i 721 (by decide +kernel) (by decide +kernel))⟩
theorem fl_X9_173 : FL "BaulkHall" 173 2 3 := fl_intro "BaulkHall$Frame" rfl (by decide) (by decide) (bw_i 364 (by decide +kernel) (by decide +kernel)) (Or.inl rfl)
theorem fl_X9_176 : FL "BaulkHall" 176 2 1 := fl_intro "BaulkHall$Frame" rfl (by decide) (by decide) (bw_i 359 (by decide +kernel) (by decide +kernel)) (Or.inl rfl)
theorem fl_X9_179 : FL "BaulkHall" 179 2 2 := fl_intro "BaulkHall$Frame" rfl (by decide) (by decide) (bw_i 361 (by decide +kernel) (by decide +kernel)) (Or.inl rfl)
theorem tw_X9_171 : TW "BaulkHall" "java/lang/IllegalStateException" 95 171 99 := tw_mk (by decide +kernel) (bw_i 283 (by decide +kernel) (by decide +kernel)) (bw_i 41 (by decide +kernel) (by decide +kernel)) (by decide +kernel) (by decide +kernel) (by decide +kernel) (by decide +kernel)
theorem lk_X9_191 : LkV "BaulkHall" 191 M_X9_cueHeldBy := ⟨(bw_i 430 (by decide +kernel) (by decide +kernel)), (bw_i 432 (by decide +kernel) (by decide +kernel)), (bw_i 4 (by decide +kernel) (by decide +kernel))⟩
theorem lk_X9_198 : LkS "BaulkHall" 198 M_X9_forceWith := ⟨(bw_i 728 (by decide +kernel) (by decide +kernel)), (bw_i 729 (by decide +kernel) (by decide +kernel))⟩
theorem lk_X9_202_0 : LkU "BaulkHall" 202 "BaulkHall$BoardRoll" "BaulkHall$Roll" ⟨"BaulkHall$Roll", "run", "([III)V"⟩ M_X6_run := ⟨(bw_i 536 (by decide +kernel) (by decide +kernel)), (bw_i 538 (by decide +kernel) (by decide +kernel)), (bw_i 539 (by decide +kernel) (by decide +kernel)), (bw_i 537 (by decide +kernel) (by decide +kernel)), Or.inr rfl, by decide, by decide⟩
theorem lk_X9_202_4 : LkU "BaulkHall" 202 "BaulkHall$PairsRoll" "BaulkHall$Roll" ⟨"BaulkHall$Roll", "run", "([III)V"⟩ M_X6_run := ⟨(bw_i 536 (by decide +kernel) (by decide +kernel)), (bw_i 538 (by decide +kernel) (by decide +kernel)), (bw_i 540 (by decide +kernel) (by decide +kernel)), (bw_i 537 (by decide +kernel) (by decide +kernel)), Or.inr rfl, by decide, by decide⟩
theorem lk_X9_208 : LkV "BaulkHall" 208 M_X1_wearOff := ⟨(bw_i 732 (by decide +kernel) (by decide +kernel)), (bw_i 733 (by decide +kernel) (by decide +kernel)), (bw_i 734 (by decide +kernel) (by decide +kernel))⟩
theorem lk_X9_211 : LkV "BaulkHall" 211 M_X2_settle := ⟨(bw_i 737 (by decide +kernel) (by decide +kernel)), (bw_i 738 (by decide +kernel) (by decide +kernel)), (bw_i 739 (by decide +kernel) (by decide +kernel))⟩
theorem lk_X9_215 : LkV "BaulkHall" 215 M_X2_isOver := ⟨(bw_i 514 (by decide +kernel) (by decide +kernel)), (bw_i 515 (by decide +kernel) (by decide +kernel)), (bw_i 516 (by decide +kernel) (by decide +kernel))⟩
theorem lk_X9_218 : LkV "BaulkHall" 218 M_X9_countWin := ⟨(bw_i 795 (by decide +kernel) (by decide +kernel)), (bw_i 797 (by decide +kernel) (by decide +kernel)), (bw_i 28 (by decide +kernel) (by decide +kernel))⟩
theorem fl_X9_185 : FL "BaulkHall" 185 2 5 := fl_intro "BaulkHall$Frame" rfl (by decide) (by decide) (bw_i 368 (by decide +kernel) (by decide +kernel)) (Or.inl rfl)
theorem fl_X9_195 : FL "BaulkHall" 195 2 4 := fl_intro "BaulkHall$Frame" rfl (by decide) (by decide) (bw_i 366 (by decide +kernel) (by decide +kernel)) (Or.inl rfl)
theorem tw_X9_189 : TW "BaulkHall" "java/lang/IllegalStateException" 95 189 99 := tw_mk (by decide +kernel) (bw_i 283 (by decide +kernel) (by decide +kernel)) (bw_i 41 (by decide +kernel) (by decide +kernel)) (by decide +kernel) (by decide +kernel) (by decide +kernel) (by decide +kernel)
theorem lk_X9_222 : LkV "BaulkHall" 222 M_X9_cueAt := ⟨(bw_i 425 (by decide +kernel) (by decide +kernel)), (bw_i 427 (by decide +kernel) (by decide +kernel)), (bw_i 3 (by decide +kernel) (by decide +kernel))⟩
theorem lk_X9_234 : LkI "BaulkHall" 234 M_X3_init := ⟨(bw_i 440 (by decide +kernel) (by decide +kernel)), (bw_i 441 (by decide +kernel) (by decide +kernel)), rfl, rfl⟩
theorem lk_X9_240 : LkV "BaulkHall" 240 M_X9_addDebt := ⟨(bw_i 456 (by decide +kernel) (by decide +kernel)), (bw_i 458 (by decide +kernel) (by decide +kernel)), (bw_i 5 (by decide +kernel) (by decide +kernel))⟩
theorem fl_X9_225 : FL "BaulkHall" 225 1 1 := fl_intro "BaulkHall$Cue" rfl (by decide) (by decide) (bw_i 153 (by decide +kernel) (by decide +kernel)) (Or.inl rfl)
theorem wN_3 : Cond.instantiable (cN 3) (nf 3) ∈ BW ∧ Cond.initialized (cN 3) ∈ BW := ⟨(bw_i 439 (by decide +kernel) (by decide +kernel)), (bw_i 46 (by decide +kernel) (by decide +kernel))⟩
theorem fl_X9_231 : FL "BaulkHall" 231 1 0 := fl_intro "BaulkHall$Cue" rfl (by decide) (by decide) (bw_i 151 (by decide +kernel) (by decide +kernel)) (Or.inl rfl)
theorem fw_1_1 : FW 1 1 := fun _ _ h => by cases h; rfl
theorem fl_X9_237 : FL "BaulkHall" 237 8 13 := fl_intro "BaulkHall" rfl (by decide) (by decide) (bw_i 172 (by decide +kernel) (by decide +kernel)) (Or.inl rfl)
theorem fw_8_13 : FW 8 13 := fun _ _ h => by cases h; rfl
theorem tw_X9_229 : TW "BaulkHall" "java/lang/IllegalStateException" 95 229 99 := tw_mk (by decide +kernel) (bw_i 283 (by decide +kernel) (by decide +kernel)) (bw_i 41 (by decide +kernel) (by decide +kernel)) (by decide +kernel) (by decide +kernel) (by decide +kernel) (by decide +kernel)
theorem lk_X9_245 : LkV "BaulkHall" 245 M_X3_close := ⟨(bw_i 804 (by decide +kernel) (by decide +kernel)), (bw_i 805 (by decide +kernel) (by decide +kernel)), (bw_i 806 (by decide +kernel) (by decide +kernel))⟩
theorem lk_X9_248 : LkV "BaulkHall" 248 M_X3_coinsKept := ⟨(bw_i 501 (by decide +kernel) (by decide +kernel)), (bw_i 502 (by decide +kernel) (by decide +kernel)), (bw_i 503 (by decide +kernel) (by decide +kernel))⟩
theorem fl_X9_251 : FL "BaulkHall" 251 3 0 := fl_intro "BaulkHall$Loan" rfl (by decide) (by decide) (bw_i 446 (by decide +kernel) (by decide +kernel)) (Or.inl rfl)
theorem tw_X9_243 : TW "BaulkHall" "java/lang/IllegalStateException" 95 243 99 := tw_mk (by decide +kernel) (bw_i 283 (by decide +kernel) (by decide +kernel)) (bw_i 41 (by decide +kernel) (by decide +kernel)) (by decide +kernel) (by decide +kernel) (by decide +kernel) (by decide +kernel)
theorem fw_1_0 : FW 1 0 := fun _ _ h => by cases h; rfl
theorem tw_X9_254 : TW "BaulkHall" "java/lang/IllegalStateException" 95 254 99 := tw_mk (by decide +kernel) (bw_i 283 (by decide +kernel) (by decide +kernel)) (bw_i 41 (by decide +kernel) (by decide +kernel)) (by decide +kernel) (by decide +kernel) (by decide +kernel) (by decide +kernel)
theorem fl_X9_256 : FL "BaulkHall" 256 5 1 := fl_intro "BaulkHall$Rental" rfl (by decide) (by decide) (bw_i 657 (by decide +kernel) (by decide +kernel)) (Or.inl rfl)
theorem fl_X9_257 : FL "BaulkHall" 257 7 3 := fl_intro "BaulkHall$Table" rfl (by decide) (by decide) (bw_i 132 (by decide +kernel) (by decide +kernel)) (Or.inl rfl)
theorem lk_X9_261 : LkV "BaulkHall" 261 M_X9_billsAnew := ⟨(bw_i 468 (by decide +kernel) (by decide +kernel)), (bw_i 470 (by decide +kernel) (by decide +kernel)), (bw_i 6 (by decide +kernel) (by decide +kernel))⟩
theorem lk_X9_265 : LkV "BaulkHall" 265 M_X9_depositsAnew := ⟨(bw_i 493 (by decide +kernel) (by decide +kernel)), (bw_i 495 (by decide +kernel) (by decide +kernel)), (bw_i 8 (by decide +kernel) (by decide +kernel))⟩
theorem cl_X9_268 : Cond.classLink "BaulkHall" 268 "java/lang/IndexOutOfBoundsException" ∈ BW := (bw_i 311 (by decide +kernel) (by decide +kernel))
theorem tw_X9_270 : TW "BaulkHall" "java/lang/IndexOutOfBoundsException" 268 270 272 := tw_mk (by decide +kernel) (bw_i 311 (by decide +kernel) (by decide +kernel)) (bw_i 39 (by decide +kernel) (by decide +kernel)) (by decide +kernel) (by decide +kernel) (by decide +kernel) (by decide +kernel)
theorem lk_X9_273 : LkV "BaulkHall" 273 M_X2_lowestBall := ⟨(bw_i 845 (by decide +kernel) (by decide +kernel)), (bw_i 742 (by decide +kernel) (by decide +kernel)), (bw_i 743 (by decide +kernel) (by decide +kernel))⟩
theorem fl_X9_276 : FL "BaulkHall" 276 2 7 := fl_intro "BaulkHall$Frame" rfl (by decide) (by decide) (bw_i 371 (by decide +kernel) (by decide +kernel)) (Or.inl rfl)
theorem fl_X9_279 : FL "BaulkHall" 279 2 9 := fl_intro "BaulkHall$Frame" rfl (by decide) (by decide) (bw_i 375 (by decide +kernel) (by decide +kernel)) (Or.inl rfl)
theorem fl_X9_282 : FL "BaulkHall" 282 2 8 := fl_intro "BaulkHall$Frame" rfl (by decide) (by decide) (bw_i 373 (by decide +kernel) (by decide +kernel)) (Or.inl rfl)
theorem fl_X9_285 : FL "BaulkHall" 285 2 10 := fl_intro "BaulkHall$Frame" rfl (by decide) (by decide) (bw_i 377 (by decide +kernel) (by decide +kernel)) (Or.inl rfl)
theorem lk_X9_288 : LkV "BaulkHall" 288 M_X9_contactsOf := ⟨(bw_i 532 (by decide +kernel) (by decide +kernel)), (bw_i 534 (by decide +kernel) (by decide +kernel)), (bw_i 10 (by decide +kernel) (by decide +kernel))⟩
theorem lk_X9_292 : LkV "BaulkHall" 292 M_X1_isHeldBy := ⟨(bw_i 434 (by decide +kernel) (by decide +kernel)), (bw_i 435 (by decide +kernel) (by decide +kernel)), (bw_i 436 (by decide +kernel) (by decide +kernel))⟩
theorem tw_X9_295 : TW "BaulkHall" "java/lang/IllegalArgumentException" 140 295 144 := tw_mk (by decide +kernel) (bw_i 215 (by decide +kernel) (by decide +kernel)) (bw_i 40 (by decide +kernel) (by decide +kernel)) (by decide +kernel) (by decide +kernel) (by decide +kernel) (by decide +kernel)
theorem tw_X9_297 : TW "BaulkHall" "java/lang/IndexOutOfBoundsException" 268 297 272 := tw_mk (by decide +kernel) (bw_i 311 (by decide +kernel) (by decide +kernel)) (bw_i 39 (by decide +kernel) (by decide +kernel)) (by decide +kernel) (by decide +kernel) (by decide +kernel) (by decide +kernel)
theorem tw_X9_299 : TW "BaulkHall" "java/lang/IndexOutOfBoundsException" 268 299 272 := tw_mk (by decide +kernel) (bw_i 311 (by decide +kernel) (by decide +kernel)) (bw_i 39 (by decide +kernel) (by decide +kernel)) (by decide +kernel) (by decide +kernel) (by decide +kernel) (by decide +kernel)
theorem tw_X9_301 : TW "BaulkHall" "java/lang/IndexOutOfBoundsException" 268 301 272 := tw_mk (by decide +kernel) (bw_i 311 (by decide +kernel) (by decide +kernel)) (bw_i 39 (by decide +kernel) (by decide +kernel)) (by decide +kernel) (by decide +kernel) (by decide +kernel) (by decide +kernel)
theorem tw_X9_303 : TW "BaulkHall" "java/lang/IndexOutOfBoundsException" 268 303 272 := tw_mk (by decide +kernel) (bw_i 311 (by decide +kernel) (by decide +kernel)) (bw_i 39 (by decide +kernel) (by decide +kernel)) (by decide +kernel) (by decide +kernel) (by decide +kernel) (by decide +kernel)
theorem lk_X9_307 : LkV "BaulkHall" 307 M_X8_isRentedBy := ⟨(bw_i 337 (by decide +kernel) (by decide +kernel)), (bw_i 338 (by decide +kernel) (by decide +kernel)), (bw_i 339 (by decide +kernel) (by decide +kernel))⟩
theorem tw_X9_305 : TW "BaulkHall" "java/lang/IllegalStateException" 95 305 99 := tw_mk (by decide +kernel) (bw_i 283 (by decide +kernel) (by decide +kernel)) (bw_i 41 (by decide +kernel) (by decide +kernel)) (by decide +kernel) (by decide +kernel) (by decide +kernel) (by decide +kernel)
theorem tw_X9_310 : TW "BaulkHall" "java/lang/IllegalStateException" 95 310 99 := tw_mk (by decide +kernel) (bw_i 283 (by decide +kernel) (by decide +kernel)) (bw_i 41 (by decide +kernel) (by decide +kernel)) (by decide +kernel) (by decide +kernel) (by decide +kernel) (by decide +kernel)
theorem lk_X9_312 : LkV "BaulkHall" 312 M_X5_close := ⟨(bw_i 688 (by decide +kernel) (by decide +kernel)), (bw_i 689 (by decide +kernel) (by decide +kernel)), (bw_i 690 (by decide +kernel) (by decide +kernel))⟩
theorem lk_X9_314 : LkS "BaulkHall" 314 M_X9_billFor := ⟨(bw_i 490 (by decide +kernel) (by decide +kernel)), (bw_i 491 (by decide +kernel) (by decide +kernel))⟩
theorem lk_X9_318 : LkV "BaulkHall" 318 M_X5_isClosed := ⟨(bw_i 472 (by decide +kernel) (by decide +kernel)), (bw_i 473 (by decide +kernel) (by decide +kernel)), (bw_i 474 (by decide +kernel) (by decide +kernel))⟩
theorem lk_X9_327 : LkV "BaulkHall" 327 M_X9_leagueMinutes := ⟨(bw_i 476 (by decide +kernel) (by decide +kernel)), (bw_i 478 (by decide +kernel) (by decide +kernel)), (bw_i 7 (by decide +kernel) (by decide +kernel))⟩
theorem fl_X9_321 : FL "BaulkHall" 321 5 3 := fl_intro "BaulkHall$Rental" rfl (by decide) (by decide) (bw_i 661 (by decide +kernel) (by decide +kernel)) (Or.inl rfl)
theorem fl_X9_324 : FL "BaulkHall" 324 5 2 := fl_intro "BaulkHall$Rental" rfl (by decide) (by decide) (bw_i 659 (by decide +kernel) (by decide +kernel)) (Or.inl rfl)
theorem fl_X9_331 : FL "BaulkHall" 331 5 4 := fl_intro "BaulkHall$Rental" rfl (by decide) (by decide) (bw_i 663 (by decide +kernel) (by decide +kernel)) (Or.inl rfl)
theorem lk_X9_338 : LkV "BaulkHall" 338 M_X7_minutesWithin := ⟨(bw_i 480 (by decide +kernel) (by decide +kernel)), (bw_i 481 (by decide +kernel) (by decide +kernel)), (bw_i 482 (by decide +kernel) (by decide +kernel))⟩
theorem fl_X9_332 : FL "BaulkHall" 332 8 12 := fl_intro "BaulkHall" rfl (by decide) (by decide) (bw_i 171 (by decide +kernel) (by decide +kernel)) (Or.inl rfl)
theorem fl_X9_335 : FL "BaulkHall" 335 6 0 := fl_intro "BaulkHall$Stay" rfl (by decide) (by decide) (bw_i 411 (by decide +kernel) (by decide +kernel)) (Or.inl rfl)
theorem fl_X9_337 : FL "BaulkHall" 337 5 0 := fl_intro "BaulkHall$Rental" rfl (by decide) (by decide) (bw_i 654 (by decide +kernel) (by decide +kernel)) (Or.inl rfl)
theorem lk_X9_341 : LkV "BaulkHall" 341 M_X3_isClosed := ⟨(bw_i 497 (by decide +kernel) (by decide +kernel)), (bw_i 498 (by decide +kernel) (by decide +kernel)), (bw_i 499 (by decide +kernel) (by decide +kernel))⟩
theorem lk_X9_342 : LkI "BaulkHall" 342 M_X7_init := ⟨(bw_i 406 (by decide +kernel) (by decide +kernel)), (bw_i 407 (by decide +kernel) (by decide +kernel)), rfl, rfl⟩
theorem fw_2_5 : FW 2 5 := fun _ _ h => by cases h; rfl
theorem fw_7_3 : FW 7 3 := fun _ _ h => by cases h; rfl
theorem wN_6 : Cond.instantiable (cN 6) (nf 6) ∈ BW ∧ Cond.initialized (cN 6) ∈ BW := ⟨(bw_i 405 (by decide +kernel) (by decide +kernel)), (bw_i 44 (by decide +kernel) (by decide +kernel))⟩
theorem fl_X9_343 : FL "BaulkHall" 343 7 4 := fl_intro "BaulkHall$Table" rfl (by decide) (by decide) (bw_i 133 (by decide +kernel) (by decide +kernel)) (Or.inl rfl)
theorem fw_7_4 : FW 7 4 := fun _ _ h => by cases h; rfl
theorem fw_8_12 : FW 8 12 := fun _ _ h => by cases h; rfl
theorem lk_X9_347 : LkV "BaulkHall" 347 M_X7_close := ⟨(bw_i 696 (by decide +kernel) (by decide +kernel)), (bw_i 697 (by decide +kernel) (by decide +kernel)), (bw_i 698 (by decide +kernel) (by decide +kernel))⟩
theorem lm_X9_348 : Cond.methodLink "BaulkHall" 348 Lib.Math.max.name ∈ BW := (bw_i 731 (by decide +kernel) (by decide +kernel))
theorem fl_X9_353_0 : FL "BaulkHall" 353 0 4 := fl_intro "BaulkHall$Roll" rfl (by decide) (by decide) (bw_i 88 (by decide +kernel) (by decide +kernel)) (Or.inl rfl)
theorem fl_X9_353_4 : FL "BaulkHall" 353 4 4 := fl_intro "BaulkHall$Roll" rfl (by decide) (by decide) (bw_i 88 (by decide +kernel) (by decide +kernel)) (Or.inl rfl)
theorem lk_X9_362 : LkS "BaulkHall" 362 M_X9_isColumn := ⟨(bw_i 574 (by decide +kernel) (by decide +kernel)), (bw_i 575 (by decide +kernel) (by decide +kernel))⟩
theorem lk_X9_365 : LkS "BaulkHall" 365 M_X9_isRow := ⟨(bw_i 577 (by decide +kernel) (by decide +kernel)), (bw_i 578 (by decide +kernel) (by decide +kernel))⟩
theorem ls_X9_356 : Cond.fieldLink "BaulkHall" 356 "BaulkHall" (nSt 2) "[I" ∈ BW ∨ ∃ host, Cond.fieldLinkNest "BaulkHall" 356 "BaulkHall" (nSt 2) "[I" host ∈ XW := Or.inl (bw_i 570 (by decide +kernel) (by decide +kernel))
theorem ls_X9_359 : Cond.fieldLink "BaulkHall" 359 "BaulkHall" (nSt 3) "[I" ∈ BW ∨ ∃ host, Cond.fieldLinkNest "BaulkHall" 359 "BaulkHall" (nSt 3) "[I" host ∈ XW := Or.inl (bw_i 572 (by decide +kernel) (by decide +kernel))
theorem ls_X9_368 : Cond.fieldLink "BaulkHall" 368 "BaulkHall" (nSt 1) "[I" ∈ BW ∨ ∃ host, Cond.fieldLinkNest "BaulkHall" 368 "BaulkHall" (nSt 1) "[I" host ∈ XW := Or.inl (bw_i 610 (by decide +kernel) (by decide +kernel))
theorem lk_X0_3 : LkNI "BaulkHall$BoardRoll" 3 "BaulkHall" M_X6_init := ⟨by decide +kernel, (bw_i 73 (by decide +kernel) (by decide +kernel)), rfl, rfl⟩
theorem fl_X0_9 : FL "BaulkHall$BoardRoll" 9 0 6 := fl_intro "BaulkHall$BoardRoll" rfl (by decide) (by decide) (bw_i 76 (by decide +kernel) (by decide +kernel)) (Or.inl rfl)
theorem ff_X0_0_6 : FF "BaulkHall$BoardRoll" 0 6 := fun _ _ h => by cases h; exact ⟨rfl, rfl⟩
theorem lk_X0_18 : LkV "BaulkHall$BoardRoll" 18 M_X0_put := ⟨(bw_i 548 (by decide +kernel) (by decide +kernel)), (bw_i 550 (by decide +kernel) (by decide +kernel)), (bw_i 11 (by decide +kernel) (by decide +kernel))⟩
theorem fl_X0_15 : FL "BaulkHall$BoardRoll" 15 0 0 := fl_intro "BaulkHall$BoardRoll" rfl (by decide) (by decide) (bw_i 78 (by decide +kernel) (by decide +kernel)) (Or.inr (bw_i 79 (by decide +kernel) (by decide +kernel)))
theorem lk_X0_22 : LkNS "BaulkHall$BoardRoll" 22 "BaulkHall" M_X9_cellBeside := ⟨by decide +kernel, (bw_i 568 (by decide +kernel) (by decide +kernel))⟩
theorem lo_X1_3 : Cond.methodLink "BaulkHall$Cue" 3 Lib.objectInit ∈ BW := (bw_i 149 (by decide +kernel) (by decide +kernel))
theorem fl_X1_9 : FL "BaulkHall$Cue" 9 1 1 := fl_intro "BaulkHall$Cue" rfl (by decide) (by decide) (bw_i 152 (by decide +kernel) (by decide +kernel)) (Or.inl rfl)
theorem fl_X1_15 : FL "BaulkHall$Cue" 15 3 0 := fl_intro "BaulkHall$Loan" rfl (by decide) (by decide) (bw_i 445 (by decide +kernel) (by decide +kernel)) (Or.inl rfl)
theorem lm_X1_24 : Cond.methodLink "BaulkHall$Cue" 24 Lib.Math.min.name ∈ BW := (bw_i 736 (by decide +kernel) (by decide +kernel))
theorem fl_X1_21 : FL "BaulkHall$Cue" 21 1 0 := fl_intro "BaulkHall$Cue" rfl (by decide) (by decide) (bw_i 150 (by decide +kernel) (by decide +kernel)) (Or.inl rfl)
theorem lo_X2_3 : Cond.methodLink "BaulkHall$Frame" 3 Lib.objectInit ∈ BW := (bw_i 346 (by decide +kernel) (by decide +kernel))
theorem lc_X2_13 : Cond.methodLink "BaulkHall$Frame" 13 ⟨"[I", "clone", "()Ljava/lang/Object;"⟩ ∈ BW := (bw_i 349 (by decide +kernel) (by decide +kernel))
theorem wclone : Cond.sameMethod "[I" "java/lang/Object" "clone" "()Ljava/lang/Object;" ∈ BW ∧ Cond.native ⟨"java/lang/Object", "clone", "()Ljava/lang/Object;"⟩ ∈ BW ∧ Cond.instanceMethod ⟨"java/lang/Object", "clone", "()Ljava/lang/Object;"⟩ ∈ BW ∧ Cond.selects "[I" ⟨"[I", "clone", "()Ljava/lang/Object;"⟩ ⟨"java/lang/Object", "clone", "()Ljava/lang/Object;"⟩ ∈ BW ∧ Cond.castable "[I" "java/lang/Cloneable" ∈ XW := ⟨(bw_i 350 (by decide +kernel) (by decide +kernel)), (bw_i 351 (by decide +kernel) (by decide +kernel)), (bw_i 352 (by decide +kernel) (by decide +kernel)), (bw_i 353 (by decide +kernel) (by decide +kernel)), by decide +kernel⟩
theorem ls_X2_9 : Cond.fieldLink "BaulkHall$Frame" 9 "BaulkHall" (nSt 0) "[I" ∈ BW ∨ ∃ host, Cond.fieldLinkNest "BaulkHall$Frame" 9 "BaulkHall" (nSt 0) "[I" host ∈ XW := Or.inr ⟨"BaulkHall", by decide +kernel⟩
theorem cl_X2_14 : Cond.classLink "BaulkHall$Frame" 14 "[I" ∈ BW := (bw_i 355 (by decide +kernel) (by decide +kernel))
theorem fl_X2_18 : FL "BaulkHall$Frame" 18 2 4 := fl_intro "BaulkHall$Frame" rfl (by decide) (by decide) (bw_i 365 (by decide +kernel) (by decide +kernel)) (Or.inl rfl)
theorem ff_X2_2_4 : FF "BaulkHall$Frame" 2 4 := fun _ _ h => by cases h; exact ⟨rfl, rfl⟩
theorem fl_X2_23 : FL "BaulkHall$Frame" 23 2 10 := fl_intro "BaulkHall$Frame" rfl (by decide) (by decide) (bw_i 376 (by decide +kernel) (by decide +kernel)) (Or.inl rfl)
theorem fw_2_10 : FW 2 10 := fun _ _ h => by cases h; rfl
theorem fl_X2_27 : FL "BaulkHall$Frame" 27 2 0 := fl_intro "BaulkHall$Frame" rfl (by decide) (by decide) (bw_i 356 (by decide +kernel) (by decide +kernel)) (Or.inl rfl)
theorem ff_X2_2_0 : FF "BaulkHall$Frame" 2 0 := fun _ _ h => by cases h; exact ⟨rfl, rfl⟩
theorem fl_X2_30 : FL "BaulkHall$Frame" 30 2 1 := fl_intro "BaulkHall$Frame" rfl (by decide) (by decide) (bw_i 358 (by decide +kernel) (by decide +kernel)) (Or.inl rfl)
theorem ff_X2_2_1 : FF "BaulkHall$Frame" 2 1 := fun _ _ h => by cases h; exact ⟨rfl, rfl⟩
theorem fl_X2_33 : FL "BaulkHall$Frame" 33 2 2 := fl_intro "BaulkHall$Frame" rfl (by decide) (by decide) (bw_i 360 (by decide +kernel) (by decide +kernel)) (Or.inl rfl)
theorem ff_X2_2_2 : FF "BaulkHall$Frame" 2 2 := fun _ _ h => by cases h; exact ⟨rfl, rfl⟩
theorem fl_X2_36 : FL "BaulkHall$Frame" 36 2 3 := fl_intro "BaulkHall$Frame" rfl (by decide) (by decide) (bw_i 362 (by decide +kernel) (by decide +kernel)) (Or.inl rfl)
theorem ff_X2_2_3 : FF "BaulkHall$Frame" 2 3 := fun _ _ h => by cases h; exact ⟨rfl, rfl⟩
theorem fl_X2_40 : FL "BaulkHall$Frame" 40 2 6 := fl_intro "BaulkHall$Frame" rfl (by decide) (by decide) (bw_i 369 (by decide +kernel) (by decide +kernel)) (Or.inl rfl)
theorem lk_X2_47 : LkV "BaulkHall$Frame" 47 M_X2_isOver := ⟨(bw_i 522 (by decide +kernel) (by decide +kernel)), (bw_i 515 (by decide +kernel) (by decide +kernel)), (bw_i 516 (by decide +kernel) (by decide +kernel))⟩
theorem fl_X2_43 : FL "BaulkHall$Frame" 43 2 5 := fl_intro "BaulkHall$Frame" rfl (by decide) (by decide) (bw_i 367 (by decide +kernel) (by decide +kernel)) (Or.inl rfl)
theorem lk_X2_51 : LkV "BaulkHall$Frame" 51 M_X2_lowestBall := ⟨(bw_i 741 (by decide +kernel) (by decide +kernel)), (bw_i 742 (by decide +kernel) (by decide +kernel)), (bw_i 743 (by decide +kernel) (by decide +kernel))⟩
theorem lk_X2_58 : LkV "BaulkHall$Frame" 58 M_X2_isFoul := ⟨(bw_i 745 (by decide +kernel) (by decide +kernel)), (bw_i 747 (by decide +kernel) (by decide +kernel)), (bw_i 18 (by decide +kernel) (by decide +kernel))⟩
theorem lk_X2_62 : LkV "BaulkHall$Frame" 62 M_X2_settleFoul := ⟨(bw_i 749 (by decide +kernel) (by decide +kernel)), (bw_i 751 (by decide +kernel) (by decide +kernel)), (bw_i 19 (by decide +kernel) (by decide +kernel))⟩
theorem lk_X2_66 : LkV "BaulkHall$Frame" 66 M_X2_settleFair := ⟨(bw_i 780 (by decide +kernel) (by decide +kernel)), (bw_i 782 (by decide +kernel) (by decide +kernel)), (bw_i 26 (by decide +kernel) (by decide +kernel))⟩
theorem fl_X2_55_0 : FL "BaulkHall$Frame" 55 0 0 := fl_intro "BaulkHall$Roll" rfl (by decide) (by decide) (bw_i 82 (by decide +kernel) (by decide +kernel)) (Or.inl rfl)
theorem fl_X2_55_4 : FL "BaulkHall$Frame" 55 4 0 := fl_intro "BaulkHall$Roll" rfl (by decide) (by decide) (bw_i 82 (by decide +kernel) (by decide +kernel)) (Or.inl rfl)
theorem fl_X2_70_0 : FL "BaulkHall$Frame" 70 0 3 := fl_intro "BaulkHall$Roll" rfl (by decide) (by decide) (bw_i 86 (by decide +kernel) (by decide +kernel)) (Or.inl rfl)
theorem fl_X2_70_4 : FL "BaulkHall$Frame" 70 4 3 := fl_intro "BaulkHall$Roll" rfl (by decide) (by decide) (bw_i 86 (by decide +kernel) (by decide +kernel)) (Or.inl rfl)
theorem fl_X2_74_0 : FL "BaulkHall$Frame" 74 0 5 := fl_intro "BaulkHall$Roll" rfl (by decide) (by decide) (bw_i 90 (by decide +kernel) (by decide +kernel)) (Or.inl rfl)
theorem fl_X2_74_4 : FL "BaulkHall$Frame" 74 4 5 := fl_intro "BaulkHall$Roll" rfl (by decide) (by decide) (bw_i 90 (by decide +kernel) (by decide +kernel)) (Or.inl rfl)
theorem fl_X2_77 : FL "BaulkHall$Frame" 77 2 7 := fl_intro "BaulkHall$Frame" rfl (by decide) (by decide) (bw_i 370 (by decide +kernel) (by decide +kernel)) (Or.inl rfl)
theorem lk_X2_80_0 : LkU "BaulkHall$Frame" 80 "BaulkHall$BoardRoll" "BaulkHall$Roll" ⟨"BaulkHall$Roll", "droppedNumbers", "()I"⟩ M_X6_droppedNumbers := ⟨(bw_i 784 (by decide +kernel) (by decide +kernel)), (bw_i 786 (by decide +kernel) (by decide +kernel)), (bw_i 787 (by decide +kernel) (by decide +kernel)), (bw_i 785 (by decide +kernel) (by decide +kernel)), Or.inr rfl, by decide, by decide⟩
theorem lk_X2_80_4 : LkU "BaulkHall$Frame" 80 "BaulkHall$PairsRoll" "BaulkHall$Roll" ⟨"BaulkHall$Roll", "droppedNumbers", "()I"⟩ M_X6_droppedNumbers := ⟨(bw_i 784 (by decide +kernel) (by decide +kernel)), (bw_i 786 (by decide +kernel) (by decide +kernel)), (bw_i 788 (by decide +kernel) (by decide +kernel)), (bw_i 785 (by decide +kernel) (by decide +kernel)), Or.inr rfl, by decide, by decide⟩
theorem lk_X2_83 : LkV "BaulkHall$Frame" 83 M_X2_addPoints := ⟨(bw_i 754 (by decide +kernel) (by decide +kernel)), (bw_i 756 (by decide +kernel) (by decide +kernel)), (bw_i 20 (by decide +kernel) (by decide +kernel))⟩
theorem lk_X2_87 : LkV "BaulkHall$Frame" 87 M_X2_leader := ⟨(bw_i 790 (by decide +kernel) (by decide +kernel)), (bw_i 792 (by decide +kernel) (by decide +kernel)), (bw_i 27 (by decide +kernel) (by decide +kernel))⟩
theorem fw_2_7 : FW 2 7 := fun _ _ h => by cases h; rfl
theorem fw_2_6 : FW 2 6 := fun _ _ h => by cases h; rfl
theorem lm_X2_90 : Cond.methodLink "BaulkHall$Frame" 90 Lib.Math.max.name ∈ BW := (bw_i 753 (by decide +kernel) (by decide +kernel))
theorem lk_X2_96 : LkV "BaulkHall$Frame" 96 M_X2_comeBack := ⟨(bw_i 758 (by decide +kernel) (by decide +kernel)), (bw_i 760 (by decide +kernel) (by decide +kernel)), (bw_i 21 (by decide +kernel) (by decide +kernel))⟩
theorem lk_X2_100 : LkV "BaulkHall$Frame" 100 M_X2_isHidden := ⟨(bw_i 771 (by decide +kernel) (by decide +kernel)), (bw_i 773 (by decide +kernel) (by decide +kernel)), (bw_i 24 (by decide +kernel) (by decide +kernel))⟩
theorem fl_X2_104 : FL "BaulkHall$Frame" 104 2 9 := fl_intro "BaulkHall$Frame" rfl (by decide) (by decide) (bw_i 374 (by decide +kernel) (by decide +kernel)) (Or.inl rfl)
theorem fw_2_9 : FW 2 9 := fun _ _ h => by cases h; rfl
theorem fl_X2_107 : FL "BaulkHall$Frame" 107 2 8 := fl_intro "BaulkHall$Frame" rfl (by decide) (by decide) (bw_i 372 (by decide +kernel) (by decide +kernel)) (Or.inl rfl)
theorem fw_2_8 : FW 2 8 := fun _ _ h => by cases h; rfl
theorem lk_X2_110 : LkV "BaulkHall$Frame" 110 M_X2_player := ⟨(bw_i 794 (by decide +kernel) (by decide +kernel)), (bw_i 720 (by decide +kernel) (by decide +kernel)), (bw_i 721 (by decide +kernel) (by decide +kernel))⟩
theorem lk_X2_113 : LkV "BaulkHall$Frame" 113 M_X2_ballIn := ⟨(bw_i 762 (by decide +kernel) (by decide +kernel)), (bw_i 764 (by decide +kernel) (by decide +kernel)), (bw_i 22 (by decide +kernel) (by decide +kernel))⟩
theorem lk_X2_117 : LkV "BaulkHall$Frame" 117 M_X2_lowestEmptyCell := ⟨(bw_i 766 (by decide +kernel) (by decide +kernel)), (bw_i 768 (by decide +kernel) (by decide +kernel)), (bw_i 23 (by decide +kernel) (by decide +kernel))⟩
theorem lk_X2_120 : LkNS "BaulkHall$Frame" 120 "BaulkHall" M_X9_isPocket := ⟨by decide +kernel, (bw_i 608 (by decide +kernel) (by decide +kernel))⟩
theorem lk_X2_123 : LkV "BaulkHall$Frame" 123 M_X2_firstBallFromWhite := ⟨(bw_i 775 (by decide +kernel) (by decide +kernel)), (bw_i 777 (by decide +kernel) (by decide +kernel)), (bw_i 25 (by decide +kernel) (by decide +kernel))⟩
theorem lk_X2_126 : LkNS "BaulkHall$Frame" 126 "BaulkHall" M_X9_cellBeside := ⟨by decide +kernel, (bw_i 568 (by decide +kernel) (by decide +kernel))⟩
theorem lo_X3_3 : Cond.methodLink "BaulkHall$Loan" 3 Lib.objectInit ∈ BW := (bw_i 443 (by decide +kernel) (by decide +kernel))
theorem fl_X3_9 : FL "BaulkHall$Loan" 9 3 2 := fl_intro "BaulkHall$Loan" rfl (by decide) (by decide) (bw_i 448 (by decide +kernel) (by decide +kernel)) (Or.inl rfl)
theorem fw_3_2 : FW 3 2 := fun _ _ h => by cases h; rfl
theorem fl_X3_15 : FL "BaulkHall$Loan" 15 3 0 := fl_intro "BaulkHall$Loan" rfl (by decide) (by decide) (bw_i 444 (by decide +kernel) (by decide +kernel)) (Or.inl rfl)
theorem ff_X3_3_0 : FF "BaulkHall$Loan" 3 0 := fun _ _ h => by cases h; exact ⟨rfl, rfl⟩
theorem fl_X3_18 : FL "BaulkHall$Loan" 18 3 1 := fl_intro "BaulkHall$Loan" rfl (by decide) (by decide) (bw_i 447 (by decide +kernel) (by decide +kernel)) (Or.inl rfl)
theorem ff_X3_3_1 : FF "BaulkHall$Loan" 3 1 := fun _ _ h => by cases h; exact ⟨rfl, rfl⟩
theorem lk_X4_3 : LkNI "BaulkHall$PairsRoll" 3 "BaulkHall" M_X6_init := ⟨by decide +kernel, (bw_i 73 (by decide +kernel) (by decide +kernel)), rfl, rfl⟩
theorem lk_X4_9 : LkV "BaulkHall$PairsRoll" 9 M_X4_isBeside := ⟨(bw_i 593 (by decide +kernel) (by decide +kernel)), (bw_i 595 (by decide +kernel) (by decide +kernel)), (bw_i 12 (by decide +kernel) (by decide +kernel))⟩
theorem fl_X4_15 : FL "BaulkHall$PairsRoll" 15 4 0 := fl_intro "BaulkHall$PairsRoll" rfl (by decide) (by decide) (bw_i 80 (by decide +kernel) (by decide +kernel)) (Or.inr (bw_i 81 (by decide +kernel) (by decide +kernel)))
theorem ls_X4_19 : Cond.fieldLink "BaulkHall$PairsRoll" 19 "BaulkHall" (nSt 2) "[I" ∈ BW ∨ ∃ host, Cond.fieldLinkNest "BaulkHall$PairsRoll" 19 "BaulkHall" (nSt 2) "[I" host ∈ XW := Or.inr ⟨"BaulkHall", by decide +kernel⟩
theorem ls_X4_22 : Cond.fieldLink "BaulkHall$PairsRoll" 22 "BaulkHall" (nSt 3) "[I" ∈ BW ∨ ∃ host, Cond.fieldLinkNest "BaulkHall$PairsRoll" 22 "BaulkHall" (nSt 3) "[I" host ∈ XW := Or.inr ⟨"BaulkHall", by decide +kernel⟩
theorem lo_X5_3 : Cond.methodLink "BaulkHall$Rental" 3 Lib.objectInit ∈ BW := (bw_i 652 (by decide +kernel) (by decide +kernel))
theorem fl_X5_9 : FL "BaulkHall$Rental" 9 5 3 := fl_intro "BaulkHall$Rental" rfl (by decide) (by decide) (bw_i 660 (by decide +kernel) (by decide +kernel)) (Or.inl rfl)
theorem fw_5_3 : FW 5 3 := fun _ _ h => by cases h; rfl
theorem fl_X5_15 : FL "BaulkHall$Rental" 15 5 0 := fl_intro "BaulkHall$Rental" rfl (by decide) (by decide) (bw_i 653 (by decide +kernel) (by decide +kernel)) (Or.inl rfl)
theorem ff_X5_5_0 : FF "BaulkHall$Rental" 5 0 := fun _ _ h => by cases h; exact ⟨rfl, rfl⟩
theorem fl_X5_18 : FL "BaulkHall$Rental" 18 5 1 := fl_intro "BaulkHall$Rental" rfl (by decide) (by decide) (bw_i 655 (by decide +kernel) (by decide +kernel)) (Or.inl rfl)
theorem ff_X5_5_1 : FF "BaulkHall$Rental" 5 1 := fun _ _ h => by cases h; exact ⟨rfl, rfl⟩
theorem fl_X5_21 : FL "BaulkHall$Rental" 21 5 2 := fl_intro "BaulkHall$Rental" rfl (by decide) (by decide) (bw_i 658 (by decide +kernel) (by decide +kernel)) (Or.inl rfl)
theorem ff_X5_5_2 : FF "BaulkHall$Rental" 5 2 := fun _ _ h => by cases h; exact ⟨rfl, rfl⟩
theorem fl_X5_24 : FL "BaulkHall$Rental" 24 5 4 := fl_intro "BaulkHall$Rental" rfl (by decide) (by decide) (bw_i 662 (by decide +kernel) (by decide +kernel)) (Or.inl rfl)
theorem fw_5_4 : FW 5 4 := fun _ _ h => by cases h; rfl
theorem lo_X6_3 : Cond.methodLink "BaulkHall$Roll" 3 Lib.objectInit ∈ BW := (bw_i 75 (by decide +kernel) (by decide +kernel))
theorem fl_X6_9_0 : FL "BaulkHall$Roll" 9 0 0 := fl_intro "BaulkHall$Roll" rfl (by decide) (by decide) (bw_i 77 (by decide +kernel) (by decide +kernel)) (Or.inl rfl)
theorem ff_X6_0_0 : FF "BaulkHall$Roll" 0 0 := fun _ _ h => by cases h; exact ⟨rfl, rfl⟩
theorem fl_X6_9_4 : FL "BaulkHall$Roll" 9 4 0 := fl_intro "BaulkHall$Roll" rfl (by decide) (by decide) (bw_i 77 (by decide +kernel) (by decide +kernel)) (Or.inl rfl)
theorem ff_X6_4_0 : FF "BaulkHall$Roll" 4 0 := fun _ _ h => by cases h; exact ⟨rfl, rfl⟩
theorem fl_X6_15_0 : FL "BaulkHall$Roll" 15 0 1 := fl_intro "BaulkHall$Roll" rfl (by decide) (by decide) (bw_i 83 (by decide +kernel) (by decide +kernel)) (Or.inl rfl)
theorem ff_X6_0_1 : FF "BaulkHall$Roll" 0 1 := fun _ _ h => by cases h; exact ⟨rfl, rfl⟩
theorem fl_X6_15_4 : FL "BaulkHall$Roll" 15 4 1 := fl_intro "BaulkHall$Roll" rfl (by decide) (by decide) (bw_i 83 (by decide +kernel) (by decide +kernel)) (Or.inl rfl)
theorem ff_X6_4_1 : FF "BaulkHall$Roll" 4 1 := fun _ _ h => by cases h; exact ⟨rfl, rfl⟩
theorem fl_X6_18_0 : FL "BaulkHall$Roll" 18 0 2 := fl_intro "BaulkHall$Roll" rfl (by decide) (by decide) (bw_i 84 (by decide +kernel) (by decide +kernel)) (Or.inl rfl)
theorem ff_X6_0_2 : FF "BaulkHall$Roll" 0 2 := fun _ _ h => by cases h; exact ⟨rfl, rfl⟩
theorem fl_X6_18_4 : FL "BaulkHall$Roll" 18 4 2 := fl_intro "BaulkHall$Roll" rfl (by decide) (by decide) (bw_i 84 (by decide +kernel) (by decide +kernel)) (Or.inl rfl)
theorem ff_X6_4_2 : FF "BaulkHall$Roll" 4 2 := fun _ _ h => by cases h; exact ⟨rfl, rfl⟩
theorem fl_X6_21_0 : FL "BaulkHall$Roll" 21 0 3 := fl_intro "BaulkHall$Roll" rfl (by decide) (by decide) (bw_i 85 (by decide +kernel) (by decide +kernel)) (Or.inl rfl)
theorem ff_X6_0_3 : FF "BaulkHall$Roll" 0 3 := fun _ _ h => by cases h; exact ⟨rfl, rfl⟩
theorem fl_X6_21_4 : FL "BaulkHall$Roll" 21 4 3 := fl_intro "BaulkHall$Roll" rfl (by decide) (by decide) (bw_i 85 (by decide +kernel) (by decide +kernel)) (Or.inl rfl)
theorem ff_X6_4_3 : FF "BaulkHall$Roll" 4 3 := fun _ _ h => by cases h; exact ⟨rfl, rfl⟩
theorem lk_X6_32_0 : LkU "BaulkHall$Roll" 32 "BaulkHall$BoardRoll" "BaulkHall$Roll" ⟨"BaulkHall$Roll", "lay", "()V"⟩ M_X0_lay := ⟨(bw_i 542 (by decide +kernel) (by decide +kernel)), (bw_i 544 (by decide +kernel) (by decide +kernel)), (bw_i 545 (by decide +kernel) (by decide +kernel)), (bw_i 546 (by decide +kernel) (by decide +kernel)), Or.inl (by decide +kernel), by decide, by decide⟩
theorem lk_X6_32_4 : LkU "BaulkHall$Roll" 32 "BaulkHall$PairsRoll" "BaulkHall$Roll" ⟨"BaulkHall$Roll", "lay", "()V"⟩ M_X4_lay := ⟨(bw_i 542 (by decide +kernel) (by decide +kernel)), (bw_i 544 (by decide +kernel) (by decide +kernel)), (bw_i 552 (by decide +kernel) (by decide +kernel)), (bw_i 553 (by decide +kernel) (by decide +kernel)), Or.inl (by decide +kernel), by decide, by decide⟩
theorem lk_X6_35_0 : LkU "BaulkHall$Roll" 35 "BaulkHall$BoardRoll" "BaulkHall$Roll" ⟨"BaulkHall$Roll", "isSomeRolling", "()Z"⟩ M_X6_isSomeRolling := ⟨(bw_i 555 (by decide +kernel) (by decide +kernel)), (bw_i 897 (by decide +kernel) (by decide +kernel)), (bw_i 902 (by decide +kernel) (by decide +kernel)), (bw_i 557 (by decide +kernel) (by decide +kernel)), Or.inr rfl, by decide, by decide⟩
theorem lk_X6_35_4 : LkU "BaulkHall$Roll" 35 "BaulkHall$PairsRoll" "BaulkHall$Roll" ⟨"BaulkHall$Roll", "isSomeRolling", "()Z"⟩ M_X6_isSomeRolling := ⟨(bw_i 555 (by decide +kernel) (by decide +kernel)), (bw_i 897 (by decide +kernel) (by decide +kernel)), (bw_i 907 (by decide +kernel) (by decide +kernel)), (bw_i 557 (by decide +kernel) (by decide +kernel)), Or.inr rfl, by decide, by decide⟩
theorem lk_X6_39_0 : LkU "BaulkHall$Roll" 39 "BaulkHall$BoardRoll" "BaulkHall$Roll" ⟨"BaulkHall$Roll", "isRolling", "(I)Z"⟩ M_X6_isRolling := ⟨(bw_i 559 (by decide +kernel) (by decide +kernel)), (bw_i 898 (by decide +kernel) (by decide +kernel)), (bw_i 903 (by decide +kernel) (by decide +kernel)), (bw_i 561 (by decide +kernel) (by decide +kernel)), Or.inr rfl, by decide, by decide⟩
theorem lk_X6_39_4 : LkU "BaulkHall$Roll" 39 "BaulkHall$PairsRoll" "BaulkHall$Roll" ⟨"BaulkHall$Roll", "isRolling", "(I)Z"⟩ M_X6_isRolling := ⟨(bw_i 559 (by decide +kernel) (by decide +kernel)), (bw_i 898 (by decide +kernel) (by decide +kernel)), (bw_i 908 (by decide +kernel) (by decide +kernel)), (bw_i 561 (by decide +kernel) (by decide +kernel)), Or.inr rfl, by decide, by decide⟩
theorem lk_X6_43_0 : LkU "BaulkHall$Roll" 43 "BaulkHall$BoardRoll" "BaulkHall$Roll" ⟨"BaulkHall$Roll", "act", "(I)V"⟩ M_X6_act := ⟨(bw_i 563 (by decide +kernel) (by decide +kernel)), (bw_i 899 (by decide +kernel) (by decide +kernel)), (bw_i 904 (by decide +kernel) (by decide +kernel)), (bw_i 565 (by decide +kernel) (by decide +kernel)), Or.inr rfl, by decide, by decide⟩
theorem lk_X6_43_4 : LkU "BaulkHall$Roll" 43 "BaulkHall$PairsRoll" "BaulkHall$Roll" ⟨"BaulkHall$Roll", "act", "(I)V"⟩ M_X6_act := ⟨(bw_i 563 (by decide +kernel) (by decide +kernel)), (bw_i 899 (by decide +kernel) (by decide +kernel)), (bw_i 909 (by decide +kernel) (by decide +kernel)), (bw_i 565 (by decide +kernel) (by decide +kernel)), Or.inr rfl, by decide, by decide⟩
theorem fl_X6_25_0 : FL "BaulkHall$Roll" 25 0 4 := fl_intro "BaulkHall$Roll" rfl (by decide) (by decide) (bw_i 87 (by decide +kernel) (by decide +kernel)) (Or.inl rfl)
theorem fw_0_4 : FW 0 4 := fun _ _ h => by cases h; rfl
theorem fl_X6_25_4 : FL "BaulkHall$Roll" 25 4 4 := fl_intro "BaulkHall$Roll" rfl (by decide) (by decide) (bw_i 87 (by decide +kernel) (by decide +kernel)) (Or.inl rfl)
theorem fw_4_4 : FW 4 4 := fun _ _ h => by cases h; rfl
theorem fl_X6_29_0 : FL "BaulkHall$Roll" 29 0 5 := fl_intro "BaulkHall$Roll" rfl (by decide) (by decide) (bw_i 89 (by decide +kernel) (by decide +kernel)) (Or.inl rfl)
theorem fw_0_5 : FW 0 5 := fun _ _ h => by cases h; rfl
theorem fl_X6_29_4 : FL "BaulkHall$Roll" 29 4 5 := fl_intro "BaulkHall$Roll" rfl (by decide) (by decide) (bw_i 89 (by decide +kernel) (by decide +kernel)) (Or.inl rfl)
theorem fw_4_5 : FW 4 5 := fun _ _ h => by cases h; rfl
theorem lk_X6_47 : LkNS "BaulkHall$Roll" 47 "BaulkHall" M_X9_cellBeside := ⟨by decide +kernel, (bw_i 568 (by decide +kernel) (by decide +kernel))⟩
theorem lk_X6_51 : LkNS "BaulkHall$Roll" 51 "BaulkHall" M_X9_turnedBack := ⟨by decide +kernel, (bw_i 581 (by decide +kernel) (by decide +kernel))⟩
theorem lk_X6_54_0 : LkU "BaulkHall$Roll" 54 "BaulkHall$BoardRoll" "BaulkHall$Roll" ⟨"BaulkHall$Roll", "ballBeside", "(II)I"⟩ M_X0_ballBeside := ⟨(bw_i 583 (by decide +kernel) (by decide +kernel)), (bw_i 585 (by decide +kernel) (by decide +kernel)), (bw_i 586 (by decide +kernel) (by decide +kernel)), (bw_i 587 (by decide +kernel) (by decide +kernel)), Or.inl (by decide +kernel), by decide, by decide⟩
theorem lk_X6_54_4 : LkU "BaulkHall$Roll" 54 "BaulkHall$PairsRoll" "BaulkHall$Roll" ⟨"BaulkHall$Roll", "ballBeside", "(II)I"⟩ M_X4_ballBeside := ⟨(bw_i 583 (by decide +kernel) (by decide +kernel)), (bw_i 585 (by decide +kernel) (by decide +kernel)), (bw_i 590 (by decide +kernel) (by decide +kernel)), (bw_i 591 (by decide +kernel) (by decide +kernel)), Or.inl (by decide +kernel), by decide, by decide⟩
theorem lk_X6_57_0 : LkU "BaulkHall$Roll" 57 "BaulkHall$BoardRoll" "BaulkHall$Roll" ⟨"BaulkHall$Roll", "meet", "(II)V"⟩ M_X6_meet := ⟨(bw_i 599 (by decide +kernel) (by decide +kernel)), (bw_i 900 (by decide +kernel) (by decide +kernel)), (bw_i 905 (by decide +kernel) (by decide +kernel)), (bw_i 601 (by decide +kernel) (by decide +kernel)), Or.inr rfl, by decide, by decide⟩
theorem lk_X6_57_4 : LkU "BaulkHall$Roll" 57 "BaulkHall$PairsRoll" "BaulkHall$Roll" ⟨"BaulkHall$Roll", "meet", "(II)V"⟩ M_X6_meet := ⟨(bw_i 599 (by decide +kernel) (by decide +kernel)), (bw_i 900 (by decide +kernel) (by decide +kernel)), (bw_i 910 (by decide +kernel) (by decide +kernel)), (bw_i 601 (by decide +kernel) (by decide +kernel)), Or.inr rfl, by decide, by decide⟩
theorem lk_X6_61_0 : LkU "BaulkHall$Roll" 61 "BaulkHall$BoardRoll" "BaulkHall$Roll" ⟨"BaulkHall$Roll", "roll", "(II)V"⟩ M_X6_roll := ⟨(bw_i 603 (by decide +kernel) (by decide +kernel)), (bw_i 901 (by decide +kernel) (by decide +kernel)), (bw_i 906 (by decide +kernel) (by decide +kernel)), (bw_i 605 (by decide +kernel) (by decide +kernel)), Or.inr rfl, by decide, by decide⟩
theorem lk_X6_61_4 : LkU "BaulkHall$Roll" 61 "BaulkHall$PairsRoll" "BaulkHall$Roll" ⟨"BaulkHall$Roll", "roll", "(II)V"⟩ M_X6_roll := ⟨(bw_i 603 (by decide +kernel) (by decide +kernel)), (bw_i 901 (by decide +kernel) (by decide +kernel)), (bw_i 911 (by decide +kernel) (by decide +kernel)), (bw_i 605 (by decide +kernel) (by decide +kernel)), Or.inr rfl, by decide, by decide⟩
theorem lk_X6_64 : LkNS "BaulkHall$Roll" 64 "BaulkHall" M_X9_isPocket := ⟨by decide +kernel, (bw_i 608 (by decide +kernel) (by decide +kernel))⟩
theorem lk_X6_67_0 : LkU "BaulkHall$Roll" 67 "BaulkHall$BoardRoll" "BaulkHall$Roll" ⟨"BaulkHall$Roll", "note", "(III)V"⟩ M_X0_note := ⟨(bw_i 612 (by decide +kernel) (by decide +kernel)), (bw_i 614 (by decide +kernel) (by decide +kernel)), (bw_i 615 (by decide +kernel) (by decide +kernel)), (bw_i 616 (by decide +kernel) (by decide +kernel)), Or.inl (by decide +kernel), by decide, by decide⟩
theorem lk_X6_67_4 : LkU "BaulkHall$Roll" 67 "BaulkHall$PairsRoll" "BaulkHall$Roll" ⟨"BaulkHall$Roll", "note", "(III)V"⟩ M_X4_note := ⟨(bw_i 612 (by decide +kernel) (by decide +kernel)), (bw_i 614 (by decide +kernel) (by decide +kernel)), (bw_i 618 (by decide +kernel) (by decide +kernel)), (bw_i 619 (by decide +kernel) (by decide +kernel)), Or.inl (by decide +kernel), by decide, by decide⟩
theorem lo_X7_3 : Cond.methodLink "BaulkHall$Stay" 3 Lib.objectInit ∈ BW := (bw_i 409 (by decide +kernel) (by decide +kernel))
theorem fl_X7_9 : FL "BaulkHall$Stay" 9 6 2 := fl_intro "BaulkHall$Stay" rfl (by decide) (by decide) (bw_i 413 (by decide +kernel) (by decide +kernel)) (Or.inl rfl)
theorem fw_6_2 : FW 6 2 := fun _ _ h => by cases h; rfl
theorem fl_X7_15 : FL "BaulkHall$Stay" 15 6 0 := fl_intro "BaulkHall$Stay" rfl (by decide) (by decide) (bw_i 410 (by decide +kernel) (by decide +kernel)) (Or.inl rfl)
theorem ff_X7_6_0 : FF "BaulkHall$Stay" 6 0 := fun _ _ h => by cases h; exact ⟨rfl, rfl⟩
theorem fl_X7_18 : FL "BaulkHall$Stay" 18 6 1 := fl_intro "BaulkHall$Stay" rfl (by decide) (by decide) (bw_i 412 (by decide +kernel) (by decide +kernel)) (Or.inl rfl)
theorem ff_X7_6_1 : FF "BaulkHall$Stay" 6 1 := fun _ _ h => by cases h; exact ⟨rfl, rfl⟩
theorem lm_X7_21 : Cond.methodLink "BaulkHall$Stay" 21 Lib.Math.min.name ∈ BW := (bw_i 484 (by decide +kernel) (by decide +kernel))
theorem lm_X7_27 : Cond.methodLink "BaulkHall$Stay" 27 Lib.Math.max.name ∈ BW := (bw_i 487 (by decide +kernel) (by decide +kernel))
theorem lo_X8_1 : Cond.methodLink "BaulkHall$Table" 1 Lib.objectInit ∈ BW := (bw_i 125 (by decide +kernel) (by decide +kernel))
theorem fl_X8_7 : FL "BaulkHall$Table" 7 7 0 := fl_intro "BaulkHall$Table" rfl (by decide) (by decide) (bw_i 126 (by decide +kernel) (by decide +kernel)) (Or.inl rfl)
theorem fl_X8_13 : FL "BaulkHall$Table" 13 7 1 := fl_intro "BaulkHall$Table" rfl (by decide) (by decide) (bw_i 128 (by decide +kernel) (by decide +kernel)) (Or.inl rfl)
theorem fl_X8_17 : FL "BaulkHall$Table" 17 5 1 := fl_intro "BaulkHall$Rental" rfl (by decide) (by decide) (bw_i 656 (by decide +kernel) (by decide +kernel)) (Or.inl rfl)
theorem fl_X8_23 : FL "BaulkHall$Table" 23 7 3 := fl_intro "BaulkHall$Table" rfl (by decide) (by decide) (bw_i 131 (by decide +kernel) (by decide +kernel)) (Or.inl rfl)
theorem fl_X8_27 : FL "BaulkHall$Table" 27 2 3 := fl_intro "BaulkHall$Frame" rfl (by decide) (by decide) (bw_i 363 (by decide +kernel) (by decide +kernel)) (Or.inl rfl)
theorem lk_L_7 : LkV "BaulkHallLaw" 7 M_X9_setPrice := ⟨(bw_i 635 (by decide +kernel) (by decide +kernel)), (bw_i 636 (by decide +kernel) (by decide +kernel)), (bw_i 637 (by decide +kernel) (by decide +kernel))⟩
theorem lk_L_13 : LkV "BaulkHallLaw" 13 M_X9_rent := ⟨(bw_i 639 (by decide +kernel) (by decide +kernel)), (bw_i 640 (by decide +kernel) (by decide +kernel)), (bw_i 641 (by decide +kernel) (by decide +kernel))⟩
theorem lk_L_17 : LkV "BaulkHallLaw" 17 M_X9_end := ⟨(bw_i 679 (by decide +kernel) (by decide +kernel)), (bw_i 680 (by decide +kernel) (by decide +kernel)), (bw_i 681 (by decide +kernel) (by decide +kernel))⟩
theorem lk_L_20 : LkV "BaulkHallLaw" 20 M_X9_tear := ⟨(bw_i 700 (by decide +kernel) (by decide +kernel)), (bw_i 701 (by decide +kernel) (by decide +kernel)), (bw_i 702 (by decide +kernel) (by decide +kernel))⟩
theorem lk_L_23 : LkV "BaulkHallLaw" 23 M_X9_mend := ⟨(bw_i 705 (by decide +kernel) (by decide +kernel)), (bw_i 706 (by decide +kernel) (by decide +kernel)), (bw_i 707 (by decide +kernel) (by decide +kernel))⟩
theorem lk_L_26 : LkV "BaulkHallLaw" 26 M_X9_pass := ⟨(bw_i 208 (by decide +kernel) (by decide +kernel)), (bw_i 209 (by decide +kernel) (by decide +kernel)), (bw_i 210 (by decide +kernel) (by decide +kernel))⟩
theorem lk_L_29 : LkV "BaulkHallLaw" 29 M_X9_begin := ⟨(bw_i 303 (by decide +kernel) (by decide +kernel)), (bw_i 304 (by decide +kernel) (by decide +kernel)), (bw_i 305 (by decide +kernel) (by decide +kernel))⟩
theorem lk_L_33 : LkV "BaulkHallLaw" 33 M_X9_resume := ⟨(bw_i 714 (by decide +kernel) (by decide +kernel)), (bw_i 715 (by decide +kernel) (by decide +kernel)), (bw_i 716 (by decide +kernel) (by decide +kernel))⟩
theorem lk_L_36 : LkV "BaulkHallLaw" 36 M_X9_shoot := ⟨(bw_i 723 (by decide +kernel) (by decide +kernel)), (bw_i 724 (by decide +kernel) (by decide +kernel)), (bw_i 725 (by decide +kernel) (by decide +kernel))⟩
theorem lk_L_40 : LkV "BaulkHallLaw" 40 M_X9_lend := ⟨(bw_i 421 (by decide +kernel) (by decide +kernel)), (bw_i 422 (by decide +kernel) (by decide +kernel)), (bw_i 423 (by decide +kernel) (by decide +kernel))⟩
theorem lk_L_43 : LkV "BaulkHallLaw" 43 M_X9_takeBack := ⟨(bw_i 799 (by decide +kernel) (by decide +kernel)), (bw_i 800 (by decide +kernel) (by decide +kernel)), (bw_i 801 (by decide +kernel) (by decide +kernel))⟩
theorem lk_L_46 : LkV "BaulkHallLaw" 46 M_X9_tip := ⟨(bw_i 808 (by decide +kernel) (by decide +kernel)), (bw_i 809 (by decide +kernel) (by decide +kernel)), (bw_i 810 (by decide +kernel) (by decide +kernel))⟩
theorem lk_L_49 : LkV "BaulkHallLaw" 49 M_X9_isOpen := ⟨(bw_i 813 (by decide +kernel) (by decide +kernel)), (bw_i 814 (by decide +kernel) (by decide +kernel)), (bw_i 815 (by decide +kernel) (by decide +kernel))⟩
theorem lk_L_53 : LkV "BaulkHallLaw" 53 M_X9_renter := ⟨(bw_i 817 (by decide +kernel) (by decide +kernel)), (bw_i 818 (by decide +kernel) (by decide +kernel)), (bw_i 819 (by decide +kernel) (by decide +kernel))⟩
theorem lk_L_56 : LkV "BaulkHallLaw" 56 M_X9_clock := ⟨(bw_i 821 (by decide +kernel) (by decide +kernel)), (bw_i 822 (by decide +kernel) (by decide +kernel)), (bw_i 823 (by decide +kernel) (by decide +kernel))⟩
theorem lk_L_59 : LkV "BaulkHallLaw" 59 M_X9_frameOn := ⟨(bw_i 825 (by decide +kernel) (by decide +kernel)), (bw_i 826 (by decide +kernel) (by decide +kernel)), (bw_i 827 (by decide +kernel) (by decide +kernel))⟩
theorem lk_L_62 : LkV "BaulkHallLaw" 62 M_X9_owes := ⟨(bw_i 460 (by decide +kernel) (by decide +kernel)), (bw_i 461 (by decide +kernel) (by decide +kernel)), (bw_i 462 (by decide +kernel) (by decide +kernel))⟩
theorem lk_L_65 : LkV "BaulkHallLaw" 65 M_X9_owesAnew := ⟨(bw_i 464 (by decide +kernel) (by decide +kernel)), (bw_i 465 (by decide +kernel) (by decide +kernel)), (bw_i 466 (by decide +kernel) (by decide +kernel))⟩
theorem lk_L_68 : LkV "BaulkHallLaw" 68 M_X9_wins := ⟨(bw_i 829 (by decide +kernel) (by decide +kernel)), (bw_i 830 (by decide +kernel) (by decide +kernel)), (bw_i 831 (by decide +kernel) (by decide +kernel))⟩
theorem lk_L_71 : LkV "BaulkHallLaw" 71 M_X9_rank := ⟨(bw_i 833 (by decide +kernel) (by decide +kernel)), (bw_i 834 (by decide +kernel) (by decide +kernel)), (bw_i 835 (by decide +kernel) (by decide +kernel))⟩
theorem lk_L_74 : LkV "BaulkHallLaw" 74 M_X9_cueOf := ⟨(bw_i 837 (by decide +kernel) (by decide +kernel)), (bw_i 838 (by decide +kernel) (by decide +kernel)), (bw_i 839 (by decide +kernel) (by decide +kernel))⟩
theorem lk_L_77 : LkV "BaulkHallLaw" 77 M_X9_state := ⟨(bw_i 505 (by decide +kernel) (by decide +kernel)), (bw_i 506 (by decide +kernel) (by decide +kernel)), (bw_i 507 (by decide +kernel) (by decide +kernel))⟩
theorem lk_L_80 : LkV "BaulkHallLaw" 80 M_X9_ballOn := ⟨(bw_i 841 (by decide +kernel) (by decide +kernel)), (bw_i 842 (by decide +kernel) (by decide +kernel)), (bw_i 843 (by decide +kernel) (by decide +kernel))⟩
theorem lk_L_83 : LkV "BaulkHallLaw" 83 M_X9_isFree := ⟨(bw_i 846 (by decide +kernel) (by decide +kernel)), (bw_i 847 (by decide +kernel) (by decide +kernel)), (bw_i 848 (by decide +kernel) (by decide +kernel))⟩
theorem lk_L_86 : LkV "BaulkHallLaw" 86 M_X9_turn := ⟨(bw_i 850 (by decide +kernel) (by decide +kernel)), (bw_i 851 (by decide +kernel) (by decide +kernel)), (bw_i 852 (by decide +kernel) (by decide +kernel))⟩
theorem lk_L_89 : LkV "BaulkHallLaw" 89 M_X9_points := ⟨(bw_i 854 (by decide +kernel) (by decide +kernel)), (bw_i 855 (by decide +kernel) (by decide +kernel)), (bw_i 856 (by decide +kernel) (by decide +kernel))⟩
theorem lk_L_93 : LkV "BaulkHallLaw" 93 M_X9_winner := ⟨(bw_i 858 (by decide +kernel) (by decide +kernel)), (bw_i 859 (by decide +kernel) (by decide +kernel)), (bw_i 860 (by decide +kernel) (by decide +kernel))⟩
theorem lk_L_96 : LkV "BaulkHallLaw" 96 M_X9_cell := ⟨(bw_i 523 (by decide +kernel) (by decide +kernel)), (bw_i 524 (by decide +kernel) (by decide +kernel)), (bw_i 525 (by decide +kernel) (by decide +kernel))⟩
theorem lk_L_99 : LkV "BaulkHallLaw" 99 M_X9_contacts := ⟨(bw_i 528 (by decide +kernel) (by decide +kernel)), (bw_i 529 (by decide +kernel) (by decide +kernel)), (bw_i 530 (by decide +kernel) (by decide +kernel))⟩
theorem lk_L_102 : LkV "BaulkHallLaw" 102 M_X9_contactsByPairs := ⟨(bw_i 621 (by decide +kernel) (by decide +kernel)), (bw_i 622 (by decide +kernel) (by decide +kernel)), (bw_i 623 (by decide +kernel) (by decide +kernel))⟩
theorem lk_L_105 : LkV "BaulkHallLaw" 105 M_X9_wear := ⟨(bw_i 625 (by decide +kernel) (by decide +kernel)), (bw_i 626 (by decide +kernel) (by decide +kernel)), (bw_i 627 (by decide +kernel) (by decide +kernel))⟩
theorem lk_L_108 : LkV "BaulkHallLaw" 108 M_X9_force := ⟨(bw_i 862 (by decide +kernel) (by decide +kernel)), (bw_i 863 (by decide +kernel) (by decide +kernel)), (bw_i 864 (by decide +kernel) (by decide +kernel))⟩
theorem lk_L_117 : LkV "BaulkHallLaw" 117 M_X9_minute := ⟨(bw_i 869 (by decide +kernel) (by decide +kernel)), (bw_i 870 (by decide +kernel) (by decide +kernel)), (bw_i 871 (by decide +kernel) (by decide +kernel))⟩
theorem lk_L_122 : LkS "BaulkHallLaw" 122 M_L_act := ⟨(bw_i 629 (by decide +kernel) (by decide +kernel)), (bw_i 630 (by decide +kernel) (by decide +kernel))⟩
theorem lk_L_128 : LkV "BaulkHallLaw" 128 M_X9_frames := ⟨(bw_i 874 (by decide +kernel) (by decide +kernel)), (bw_i 875 (by decide +kernel) (by decide +kernel)), (bw_i 876 (by decide +kernel) (by decide +kernel))⟩
theorem lk_L_131 : LkI "BaulkHallLaw" 131 M_X9_init := ⟨(bw_i 49 (by decide +kernel) (by decide +kernel)), (bw_i 50 (by decide +kernel) (by decide +kernel)), rfl, rfl⟩
theorem lk_L_132 : LkS "BaulkHallLaw" 132 M_L_refuses := ⟨(bw_i 866 (by decide +kernel) (by decide +kernel)), (bw_i 867 (by decide +kernel) (by decide +kernel))⟩
theorem lk_L_136 : LkS "BaulkHallLaw" 136 M_L_owe := ⟨(bw_i 881 (by decide +kernel) (by decide +kernel)), (bw_i 882 (by decide +kernel) (by decide +kernel))⟩
theorem cl_L_8 : Cond.classLink "BaulkHallLaw" 8 "BaulkHall" ∈ BW := (bw_i 47 (by decide +kernel) (by decide +kernel))
theorem wN_8 : Cond.instantiable (cN 8) (nf 8) ∈ BW ∧ Cond.initialized (cN 8) ∈ BW := ⟨(bw_i 48 (by decide +kernel) (by decide +kernel)), (bw_i 30 (by decide +kernel) (by decide +kernel))⟩
theorem lk_L_140 : LkS "BaulkHallLaw" 140 M_L_bed := ⟨(bw_i 887 (by decide +kernel) (by decide +kernel)), (bw_i 888 (by decide +kernel) (by decide +kernel))⟩
theorem lk_L_144 : LkS "BaulkHallLaw" 144 M_L_frame := ⟨(bw_i 890 (by decide +kernel) (by decide +kernel)), (bw_i 891 (by decide +kernel) (by decide +kernel))⟩
theorem lk_L_148 : LkS "BaulkHallLaw" 148 M_L_meets := ⟨(bw_i 893 (by decide +kernel) (by decide +kernel)), (bw_i 894 (by decide +kernel) (by decide +kernel))⟩
theorem lk_L_152 : LkS "BaulkHallLaw" 152 M_L_tables := ⟨(bw_i 878 (by decide +kernel) (by decide +kernel)), (bw_i 879 (by decide +kernel) (by decide +kernel))⟩
theorem lk_L_156 : LkS "BaulkHallLaw" 156 M_L_shots := ⟨(bw_i 884 (by decide +kernel) (by decide +kernel)), (bw_i 885 (by decide +kernel) (by decide +kernel))⟩
theorem cl_L_111 : Cond.classLink "BaulkHallLaw" 111 "java/lang/IndexOutOfBoundsException" ∈ BW := (bw_i 632 (by decide +kernel) (by decide +kernel))
theorem cl_L_113 : Cond.classLink "BaulkHallLaw" 113 "java/lang/IllegalArgumentException" ∈ BW := (bw_i 633 (by decide +kernel) (by decide +kernel))
theorem cl_L_115 : Cond.classLink "BaulkHallLaw" 115 "java/lang/IllegalStateException" ∈ BW := (bw_i 634 (by decide +kernel) (by decide +kernel))
