-- ===== the class's beginning =====
/-- nothing there yet -/
def U0 : HS := (([], fun _ => 99), (fun _ _ _ => 0, fun _ _ _ => none), (fun _ => 0, fun _ _ => 0, fun _ _ => 0, fun _ _ => none))
def hS_0 : HS := nO U0 800000 8
def hS_1 : HS := sR (nP hS_0 1800000 17 4) 8 0 800000 (some 1800000)
def hS_2 : HS := sR (nP hS_1 1800001 12 6) 8 1 800000 (some 1800001)
def hS_3 : HS := sR (nP hS_2 1800002 13 20) 8 2 800000 (some 1800002)
def hS_4 : HS := sR (nP hS_3 1800003 15 512) 8 3 800000 (some 1800003)
def hS_5 : HS := sR (nP hS_4 1800004 16 512) 8 4 800000 (some 1800004)
def hS_6 : HS := sR (nP hS_5 1800005 14 512) 8 5 800000 (some 1800005)
def hS_7 : HS := sR (nA hS_6 1800006 10 8 (fun _ => 0)) 8 6 800000 (some 1800006)
def hS_8 : HS := sR (nA hS_7 1800007 10 8 (fun _ => 0)) 8 7 800000 (some 1800007)
def hS_9 : HS := nO hS_8 10 0
def hS_10 : HS := sR (nA hS_9 1000129 10 8 (fun _ => 0)) 0 0 10 (some 1000129)
def hS_11 : HS := sR (nA hS_10 1000130 10 8 (fun _ => 0)) 0 1 10 (some 1000130)
def hS_12 : HS := sR (nA hS_11 1000131 10 8 (fun _ => 0)) 0 2 10 (some 1000131)
def hS_13 : HS := sR (nA hS_12 1000132 11 8 (fun _ => 0)) 0 3 10 (some 1000132)
theorem C_cells0 {Γ : GTy}  : Tn Γ M_X6_init [.ref 10] hS_9 (rt none hS_13) := by
  refine Tn_of' rfl rfl rfl ?_
  show G Γ M_X6_init (rm M_X6_init) (Vn Γ M_X6_init (rt none hS_13)) (0, 0) 0 [some (.ref 10)] [] hS_9
  refine G_aload_n (pc := 0) dX6_init_0 rfl ?_
  refine G_objInit (pc := 1) lo_X6_3 wIO ⟨by decide, Nat.le_of_ble_eq_true rfl⟩ dX6_init_1 ?_
  refine G_aload_n (pc := 4) dX6_init_4 rfl ?_
  refine G_bipush (pc := 5) (v := nI 8) dX6_init_5 (by first | rfl | decide) ?_
  refine G_newI (pc := 7) (N := 8) 1000129 rfl (by decide +kernel) (by first | decide | omega) ⟨by decide, by decide⟩ wA_int rfl (by decide) ⟨by decide, by decide⟩ dX6_init_7 ?_
  refine G_putAF (pc := 9) (o := some _) rfl (fun _ h => by cases h; decide +kernel) fl_X6_9_0 ff_X6_0_0 rfl (by decide +kernel) rfl dX6_init_9 ?_
  show G _ _ _ _ _ _ _ _ hS_10
  refine G_aload_n (pc := 12) dX6_init_12 rfl ?_
  refine G_bipush (pc := 13) (v := nI 8) dX6_init_13 (by first | rfl | decide) ?_
  refine G_newI (pc := 15) (N := 8) 1000130 rfl (by decide +kernel) (by first | decide | omega) ⟨by decide, by decide⟩ wA_int rfl (by decide) ⟨by decide, by decide⟩ dX6_init_15 ?_
  refine G_putAF (pc := 17) (o := some _) rfl (fun _ h => by cases h; decide +kernel) fl_X6_15_0 ff_X6_0_1 rfl (by decide +kernel) rfl dX6_init_17 ?_
  show G _ _ _ _ _ _ _ _ hS_11
  refine G_aload_n (pc := 20) dX6_init_20 rfl ?_
  refine G_bipush (pc := 21) (v := nI 8) dX6_init_21 (by first | rfl | decide) ?_
  refine G_newI (pc := 23) (N := 8) 1000131 rfl (by decide +kernel) (by first | decide | omega) ⟨by decide, by decide⟩ wA_int rfl (by decide) ⟨by decide, by decide⟩ dX6_init_23 ?_
  refine G_putAF (pc := 25) (o := some _) rfl (fun _ h => by cases h; decide +kernel) fl_X6_18_0 ff_X6_0_2 rfl (by decide +kernel) rfl dX6_init_25 ?_
  show G _ _ _ _ _ _ _ _ hS_12
  refine G_aload_n (pc := 28) dX6_init_28 rfl ?_
  refine G_bipush (pc := 29) (v := nI 8) dX6_init_29 (by first | rfl | decide) ?_
  refine G_newZ (pc := 31) (N := 8) 1000132 rfl (by decide +kernel) (by first | decide | omega) ⟨by decide, by decide⟩ wA_boolean rfl (by decide) ⟨by decide, by decide⟩ dX6_init_31 ?_
  refine G_putAF (pc := 33) (o := some _) rfl (fun _ h => by cases h; decide +kernel) fl_X6_21_0 ff_X6_0_3 rfl (by decide +kernel) rfl dX6_init_33 ?_
  show G _ _ _ _ _ _ _ _ hS_13
  refine G_vret (pc := 36) VZ.n dX6_init_36 rfl ⟨by decide, by decide⟩ ?_
  exact ⟨rfl, rfl⟩
def hS_14 : HS := sR (nA hS_13 1000133 10 128 (fun _ => 0)) 0 6 10 (some 1000133)
theorem C_boardInit {Γ : GTy}  : Tn Γ M_X0_init [.ref 10] hS_9 (rt none hS_14) := by
  refine Tn_of' rfl rfl rfl ?_
  show G Γ M_X0_init (rm M_X0_init) (Vn Γ M_X0_init (rt none hS_14)) (0, 0) 0 [some (.ref 10)] [] hS_9
  refine G_aload_n (pc := 0) dX0_init_0 rfl ?_
  refine K_NI0v (pc := 1) (k' := (4, 32)) mok_X6_init lk_X0_3 rfl (fun _ => ⟨rfl, aokL [10] (by intro r hr; exact hr) (by decide +kernel), aokL [] (by intro r hr; exact hr) (by decide +kernel)⟩) dX0_init_1 (C_cells0) rfl ?_
  refine G_aload_n (pc := 4) dX0_init_4 rfl ?_
  refine G_sipush (pc := 5) (v := nI 128) dX0_init_5 (by first | rfl | decide) ?_
  refine G_newI (pc := 8) (N := 128) 1000133 rfl (by decide +kernel) (by first | decide | omega) ⟨by decide, by decide⟩ wA_int rfl (by decide) ⟨by decide, by decide⟩ dX0_init_8 ?_
  refine G_putAF (pc := 10) (o := some _) rfl (fun _ h => by cases h; decide +kernel) fl_X0_9 ff_X0_0_6 rfl (by decide +kernel) rfl dX0_init_10 ?_
  show G _ _ _ _ _ _ _ _ hS_14
  refine G_vret (pc := 13) VZ.n dX0_init_13 rfl ⟨by decide, by decide⟩ ?_
  exact ⟨rfl, rfl⟩
def hS_15 : HS := sR hS_14 8 8 800000 (some 10)
def hS_16 : HS := nO hS_15 400010 4
def hS_17 : HS := sR (nA hS_16 1400129 10 8 (fun _ => 0)) 4 0 400010 (some 1400129)
def hS_18 : HS := sR (nA hS_17 1400130 10 8 (fun _ => 0)) 4 1 400010 (some 1400130)
def hS_19 : HS := sR (nA hS_18 1400131 10 8 (fun _ => 0)) 4 2 400010 (some 1400131)
def hS_20 : HS := sR (nA hS_19 1400132 11 8 (fun _ => 0)) 4 3 400010 (some 1400132)
theorem C_cells4 {Γ : GTy}  : Tn Γ M_X6_init [.ref 400010] hS_16 (rt none hS_20) := by
  refine Tn_of' rfl rfl rfl ?_
  show G Γ M_X6_init (rm M_X6_init) (Vn Γ M_X6_init (rt none hS_20)) (0, 0) 0 [some (.ref 400010)] [] hS_16
  refine G_aload_n (pc := 0) dX6_init_0 rfl ?_
  refine G_objInit (pc := 1) lo_X6_3 wIO ⟨by decide, Nat.le_of_ble_eq_true rfl⟩ dX6_init_1 ?_
  refine G_aload_n (pc := 4) dX6_init_4 rfl ?_
  refine G_bipush (pc := 5) (v := nI 8) dX6_init_5 (by first | rfl | decide) ?_
  refine G_newI (pc := 7) (N := 8) 1400129 rfl (by decide +kernel) (by first | decide | omega) ⟨by decide, by decide⟩ wA_int rfl (by decide) ⟨by decide, by decide⟩ dX6_init_7 ?_
  refine G_putAF (pc := 9) (o := some _) rfl (fun _ h => by cases h; decide +kernel) fl_X6_9_4 ff_X6_4_0 rfl (by decide +kernel) rfl dX6_init_9 ?_
  show G _ _ _ _ _ _ _ _ hS_17
  refine G_aload_n (pc := 12) dX6_init_12 rfl ?_
  refine G_bipush (pc := 13) (v := nI 8) dX6_init_13 (by first | rfl | decide) ?_
  refine G_newI (pc := 15) (N := 8) 1400130 rfl (by decide +kernel) (by first | decide | omega) ⟨by decide, by decide⟩ wA_int rfl (by decide) ⟨by decide, by decide⟩ dX6_init_15 ?_
  refine G_putAF (pc := 17) (o := some _) rfl (fun _ h => by cases h; decide +kernel) fl_X6_15_4 ff_X6_4_1 rfl (by decide +kernel) rfl dX6_init_17 ?_
  show G _ _ _ _ _ _ _ _ hS_18
  refine G_aload_n (pc := 20) dX6_init_20 rfl ?_
  refine G_bipush (pc := 21) (v := nI 8) dX6_init_21 (by first | rfl | decide) ?_
  refine G_newI (pc := 23) (N := 8) 1400131 rfl (by decide +kernel) (by first | decide | omega) ⟨by decide, by decide⟩ wA_int rfl (by decide) ⟨by decide, by decide⟩ dX6_init_23 ?_
  refine G_putAF (pc := 25) (o := some _) rfl (fun _ h => by cases h; decide +kernel) fl_X6_18_4 ff_X6_4_2 rfl (by decide +kernel) rfl dX6_init_25 ?_
  show G _ _ _ _ _ _ _ _ hS_19
  refine G_aload_n (pc := 28) dX6_init_28 rfl ?_
  refine G_bipush (pc := 29) (v := nI 8) dX6_init_29 (by first | rfl | decide) ?_
  refine G_newZ (pc := 31) (N := 8) 1400132 rfl (by decide +kernel) (by first | decide | omega) ⟨by decide, by decide⟩ wA_boolean rfl (by decide) ⟨by decide, by decide⟩ dX6_init_31 ?_
  refine G_putAF (pc := 33) (o := some _) rfl (fun _ h => by cases h; decide +kernel) fl_X6_21_4 ff_X6_4_3 rfl (by decide +kernel) rfl dX6_init_33 ?_
  show G _ _ _ _ _ _ _ _ hS_20
  refine G_vret (pc := 36) VZ.n dX6_init_36 rfl ⟨by decide, by decide⟩ ?_
  exact ⟨rfl, rfl⟩
theorem C_pairsInit {Γ : GTy}  : Tn Γ M_X4_init [.ref 400010] hS_16 (rt none hS_20) := by
  refine Tn_of' rfl rfl rfl ?_
  show G Γ M_X4_init (rm M_X4_init) (Vn Γ M_X4_init (rt none hS_20)) (0, 0) 0 [some (.ref 400010)] [] hS_16
  refine G_aload_n (pc := 0) dX4_init_0 rfl ?_
  refine K_NI0v (pc := 1) (k' := (4, 32)) mok_X6_init lk_X4_3 rfl (fun _ => ⟨rfl, aokL [400010] (by intro r hr; exact hr) (by decide +kernel), aokL [] (by intro r hr; exact hr) (by decide +kernel)⟩) dX4_init_1 (C_cells4) rfl ?_
  refine G_vret (pc := 4) VZ.n dX4_init_4 rfl ⟨by decide, by decide⟩ ?_
  exact ⟨rfl, rfl⟩
def hS_21 : HS := sR hS_20 8 9 800000 (some 400010)
def hS_22 : HS := sI hS_21 8 14 800000 (nI 6)
theorem C_tableInit {Γ : GTy} {Z : HS} {q : Nat} (hk : xK Z q = 7) : Tn Γ M_X8_init [.ref q] Z (rt none (sI Z 7 0 q (nI 1))) := by
  refine Tn_of' rfl rfl rfl ?_
  show G Γ M_X8_init (rm M_X8_init) (Vn Γ M_X8_init (rt none (sI Z 7 0 q (nI 1)))) (0, 0) 0 [some (.ref q)] [] Z
  refine G_aload_n (pc := 0) dX8_init_0 rfl ?_
  refine G_objInit (pc := 1) lo_X8_1 wIO ⟨by decide, Nat.le_of_ble_eq_true rfl⟩ dX8_init_1 ?_
  refine G_aload_n (pc := 4) dX8_init_4 rfl ?_
  refine G_iconst (pc := 5) (v := nI 1) dX8_init_5 (by first | rfl | decide) ?_
  refine G_putZ (pc := 6) fl_X8_7 fw_7_0 hk rfl (Or.inr rfl) dX8_init_6 ?_
  refine G_vret (pc := 9) VZ.n dX8_init_9 rfl ⟨by decide, by decide⟩ ?_
  exact ⟨rfl, rfl⟩
theorem C_cueInit {Γ : GTy} {Z : HS} {q : Nat} (hk : xK Z q = 1) : Tn Γ M_X1_init [.ref q] Z (rt none Z) := by
  refine Tn_of' rfl rfl rfl ?_
  show G Γ M_X1_init (rm M_X1_init) (Vn Γ M_X1_init (rt none Z)) (0, 0) 0 [some (.ref q)] [] Z
  refine G_aload_n (pc := 0) dX1_init_0 rfl ?_
  refine G_objInit (pc := 1) lo_X1_3 wIO ⟨by decide, Nat.le_of_ble_eq_true rfl⟩ dX1_init_1 ?_
  refine G_vret (pc := 4) VZ.n dX1_init_4 rfl ⟨by decide, by decide⟩ ?_
  exact ⟨rfl, rfl⟩
def hS_23 : HS := nO hS_22 700000 7
def hS_24 : HS := sP (sI hS_23 7 0 700000 (nI 1)) 1800000 0 (some 700000)
def hS_25 : HS := nO hS_24 700001 7
def hS_26 : HS := sP (sI hS_25 7 0 700001 (nI 1)) 1800000 1 (some 700001)
def hS_27 : HS := nO hS_26 700002 7
def hS_28 : HS := sP (sI hS_27 7 0 700002 (nI 1)) 1800000 2 (some 700002)
def hS_29 : HS := nO hS_28 700003 7
def hS_30 : HS := sP (sI hS_29 7 0 700003 (nI 1)) 1800000 3 (some 700003)
def hS_31 : HS := nO hS_30 100000 1
def hS_32 : HS := sP hS_31 1800001 0 (some 100000)
def hS_33 : HS := nO hS_32 100001 1
def hS_34 : HS := sP hS_33 1800001 1 (some 100001)
def hS_35 : HS := nO hS_34 100002 1
def hS_36 : HS := sP hS_35 1800001 2 (some 100002)
def hS_37 : HS := nO hS_36 100003 1
def hS_38 : HS := sP hS_37 1800001 3 (some 100003)
def hS_39 : HS := nO hS_38 100004 1
def hS_40 : HS := sP hS_39 1800001 4 (some 100004)
def hS_41 : HS := nO hS_40 100005 1
def hS_42 : HS := sP hS_41 1800001 5 (some 100005)
theorem C_hallInit {Γ : GTy}  : Tn Γ M_X9_init [.ref 800000] hS_0 (rt none hS_42) := by
  refine Tn_of' rfl rfl rfl ?_
  show G Γ M_X9_init (rm M_X9_init) (Vn Γ M_X9_init (rt none hS_42)) (0, 0) 0 [some (.ref 800000), none] [] hS_0
  refine G_aload_n (pc := 0) dX9_init_0 rfl ?_
  refine G_objInit (pc := 1) lo_X9_1 wIO ⟨by decide, Nat.le_of_ble_eq_true rfl⟩ dX9_init_1 ?_
  refine G_aload_n (pc := 4) dX9_init_4 rfl ?_
  refine G_iconst (pc := 5) (v := nI 4) dX9_init_5 (by first | rfl | decide) ?_
  refine G_newP (pc := 6) (c := 17) (N := 4) 1800000 rfl (by decide +kernel) (by first | decide | omega) ⟨by decide, by decide⟩ (by decide) cl_X9_9 wP_17 rfl (by decide) ⟨by decide, by decide⟩ dX9_init_6 ?_
  refine G_putAF (pc := 9) (o := some _) rfl (fun _ h => by cases h; decide +kernel) fl_X9_11 ff_X9_8_0 rfl (by decide +kernel) rfl dX9_init_9 ?_
  show G _ _ _ _ _ _ _ _ hS_1
  refine G_aload_n (pc := 12) dX9_init_12 rfl ?_
  refine G_bipush (pc := 13) (v := nI 6) dX9_init_13 (by first | rfl | decide) ?_
  refine G_newP (pc := 15) (c := 12) (N := 6) 1800001 rfl (by decide +kernel) (by first | decide | omega) ⟨by decide, by decide⟩ (by decide) cl_X9_15 wP_12 rfl (by decide) ⟨by decide, by decide⟩ dX9_init_15 ?_
  refine G_putAF (pc := 18) (o := some _) rfl (fun _ h => by cases h; decide +kernel) fl_X9_17 ff_X9_8_1 rfl (by decide +kernel) rfl dX9_init_18 ?_
  show G _ _ _ _ _ _ _ _ hS_2
  refine G_aload_n (pc := 21) dX9_init_21 rfl ?_
  refine G_bipush (pc := 22) (v := nI 20) dX9_init_22 (by first | rfl | decide) ?_
  refine G_newP (pc := 24) (c := 13) (N := 20) 1800002 rfl (by decide +kernel) (by first | decide | omega) ⟨by decide, by decide⟩ (by decide) cl_X9_21 wP_13 rfl (by decide) ⟨by decide, by decide⟩ dX9_init_24 ?_
  refine G_putAF (pc := 27) (o := some _) rfl (fun _ h => by cases h; decide +kernel) fl_X9_23 ff_X9_8_2 rfl (by decide +kernel) rfl dX9_init_27 ?_
  show G _ _ _ _ _ _ _ _ hS_3
  refine G_aload_n (pc := 30) dX9_init_30 rfl ?_
  refine G_sipush (pc := 31) (v := nI 512) dX9_init_31 (by first | rfl | decide) ?_
  refine G_newP (pc := 34) (c := 15) (N := 512) 1800003 rfl (by decide +kernel) (by first | decide | omega) ⟨by decide, by decide⟩ (by decide) cl_X9_27 wP_15 rfl (by decide) ⟨by decide, by decide⟩ dX9_init_34 ?_
  refine G_putAF (pc := 37) (o := some _) rfl (fun _ h => by cases h; decide +kernel) fl_X9_29 ff_X9_8_3 rfl (by decide +kernel) rfl dX9_init_37 ?_
  show G _ _ _ _ _ _ _ _ hS_4
  refine G_aload_n (pc := 40) dX9_init_40 rfl ?_
  refine G_sipush (pc := 41) (v := nI 512) dX9_init_41 (by first | rfl | decide) ?_
  refine G_newP (pc := 44) (c := 16) (N := 512) 1800004 rfl (by decide +kernel) (by first | decide | omega) ⟨by decide, by decide⟩ (by decide) cl_X9_33 wP_16 rfl (by decide) ⟨by decide, by decide⟩ dX9_init_44 ?_
  refine G_putAF (pc := 47) (o := some _) rfl (fun _ h => by cases h; decide +kernel) fl_X9_35 ff_X9_8_4 rfl (by decide +kernel) rfl dX9_init_47 ?_
  show G _ _ _ _ _ _ _ _ hS_5
  refine G_aload_n (pc := 50) dX9_init_50 rfl ?_
  refine G_sipush (pc := 51) (v := nI 512) dX9_init_51 (by first | rfl | decide) ?_
  refine G_newP (pc := 54) (c := 14) (N := 512) 1800005 rfl (by decide +kernel) (by first | decide | omega) ⟨by decide, by decide⟩ (by decide) cl_X9_39 wP_14 rfl (by decide) ⟨by decide, by decide⟩ dX9_init_54 ?_
  refine G_putAF (pc := 57) (o := some _) rfl (fun _ h => by cases h; decide +kernel) fl_X9_41 ff_X9_8_5 rfl (by decide +kernel) rfl dX9_init_57 ?_
  show G _ _ _ _ _ _ _ _ hS_6
  refine G_aload_n (pc := 60) dX9_init_60 rfl ?_
  refine G_bipush (pc := 61) (v := nI 8) dX9_init_61 (by first | rfl | decide) ?_
  refine G_newI (pc := 63) (N := 8) 1800006 rfl (by decide +kernel) (by first | decide | omega) ⟨by decide, by decide⟩ wA_int rfl (by decide) ⟨by decide, by decide⟩ dX9_init_63 ?_
  refine G_putAF (pc := 65) (o := some _) rfl (fun _ h => by cases h; decide +kernel) fl_X9_45 ff_X9_8_6 rfl (by decide +kernel) rfl dX9_init_65 ?_
  show G _ _ _ _ _ _ _ _ hS_7
  refine G_aload_n (pc := 68) dX9_init_68 rfl ?_
  refine G_bipush (pc := 69) (v := nI 8) dX9_init_69 (by first | rfl | decide) ?_
  refine G_newI (pc := 71) (N := 8) 1800007 rfl (by decide +kernel) (by first | decide | omega) ⟨by decide, by decide⟩ wA_int rfl (by decide) ⟨by decide, by decide⟩ dX9_init_71 ?_
  refine G_putAF (pc := 73) (o := some _) rfl (fun _ h => by cases h; decide +kernel) fl_X9_49 ff_X9_8_7 rfl (by decide +kernel) rfl dX9_init_73 ?_
  show G _ _ _ _ _ _ _ _ hS_8
  refine G_aload_n (pc := 76) dX9_init_76 rfl ?_
  refine G_new (pc := 77) (c := 0) 10 rfl (by decide +kernel) (by first | decide | omega) ⟨by decide, by decide⟩ (by decide) cl_X9_52 wN_0.1 wN_0.2 ⟨by decide, by decide⟩ dX9_init_77 ?_
  show G _ _ _ _ _ _ _ _ hS_9
  refine G_dup (pc := 80) dX9_init_80 rfl ?_
  refine K_NI0v (pc := 81) (k' := (14, 1749)) mok_X0_init lk_X9_54 rfl (fun _ => ⟨rfl, aokL [800000] (by intro r hr; exact hr) (by decide +kernel), aokL [10, 800000] (by intro r hr; exact hr) (by decide +kernel)⟩) dX9_init_81 (C_boardInit) rfl ?_
  refine G_putRF (pc := 84) (o := some _) rfl (fun _ h => by cases h; decide +kernel) fl_X9_55 ff_X9_8_8 rfl (by decide +kernel) rfl dX9_init_84 ?_
  show G _ _ _ _ _ _ _ _ hS_15
  refine G_aload_n (pc := 87) dX9_init_87 rfl ?_
  refine G_new (pc := 88) (c := 4) 400010 rfl (by decide +kernel) (by first | decide | omega) ⟨by decide, by decide⟩ (by decide) cl_X9_59 wN_4.1 wN_4.2 ⟨by decide, by decide⟩ dX9_init_88 ?_
  show G _ _ _ _ _ _ _ _ hS_16
  refine G_dup (pc := 91) dX9_init_91 rfl ?_
  refine K_NI0v (pc := 92) (k' := (19, 1787)) mok_X4_init lk_X9_61 rfl (fun _ => ⟨rfl, aokL [800000] (by intro r hr; exact hr) (by decide +kernel), aokL [400010, 800000] (by intro r hr; exact hr) (by decide +kernel)⟩) dX9_init_92 (C_pairsInit) rfl ?_
  refine G_putRF (pc := 95) (o := some _) rfl (fun _ h => by cases h; decide +kernel) fl_X9_62 ff_X9_8_9 rfl (by decide +kernel) rfl dX9_init_95 ?_
  show G _ _ _ _ _ _ _ _ hS_21
  refine G_aload_n (pc := 98) dX9_init_98 rfl ?_
  refine G_bipush (pc := 99) (v := nI 6) dX9_init_99 (by first | rfl | decide) ?_
  refine G_putI (pc := 101) fl_X9_65 fw_8_14 (by decide +kernel) rfl dX9_init_101 ?_
  show G _ _ _ _ _ _ _ _ hS_22
  refine G_iconst (pc := 104) (v := nI 0) dX9_init_104 (by first | rfl | decide) ?_
  refine G_istore_n (pc := 105) dX9_init_105 (by decide) ?_
  refine G_iload_n (pc := 106) dX9_init_106 rfl ?_
  refine G_iconst (pc := 107) (v := nI 4) dX9_init_107 (by first | rfl | decide) ?_
  refine G_icmp_geN (pc := 108) (tgt := 130) (by omega) (by omega) dX9_init_108 (by decide) (fun h => absurd h (by decide)) (fun _ => ?_)
  refine G_aload_n (pc := 111) dX9_init_111 rfl ?_
  refine G_getS (pc := 112) fl_X9_11 (by decide +kernel) rfl (show xR _ 8 0 800000 = some 1800000 by decide +kernel) dX9_init_112 ?_
  refine G_iload_n (pc := 115) dX9_init_115 rfl ?_
  refine G_new (pc := 116) (c := 7) 700000 rfl (by decide +kernel) (by first | decide | omega) ⟨by decide, by decide⟩ (by decide) cl_X9_9 wN_7.1 wN_7.2 ⟨by decide, by decide⟩ dX9_init_116 ?_
  show G _ _ _ _ _ _ _ _ hS_23
  refine G_dup (pc := 119) dX9_init_119 rfl ?_
  refine K_NI0v (pc := 120) (k' := (20, 1792)) mok_X8_init lk_X9_69 rfl (aok0 rfl) dX9_init_120 (C_tableInit (by decide +kernel)) rfl ?_
  refine G_aast (pc := 123) (j := 0) (show xK _ 1800000 = 17 by decide +kernel) (by decide) rfl (by decide +kernel) (by omega) (show xK _ 700000 = 7 by decide +kernel) (by decide) rfl dX9_init_123 ?_
  show G _ _ _ _ _ _ _ _ hS_24
  refine G_iincN (pc := 124) dX9_init_124 rfl (by decide) ?_
  refine G_goto (pc := 127) (tgt := 106) dX9_init_127 (by decide) ?_
  refine G_iload_n (pc := 106) dX9_init_106 rfl ?_
  refine G_iconst (pc := 107) (v := nI 4) dX9_init_107 (by first | rfl | decide) ?_
  refine G_icmp_geN (pc := 108) (tgt := 130) (by omega) (by omega) dX9_init_108 (by decide) (fun h => absurd h (by decide)) (fun _ => ?_)
  refine G_aload_n (pc := 111) dX9_init_111 rfl ?_
  refine G_getS (pc := 112) fl_X9_11 (by decide +kernel) rfl (show xR _ 8 0 800000 = some 1800000 by decide +kernel) dX9_init_112 ?_
  refine G_iload_n (pc := 115) dX9_init_115 rfl ?_
  refine G_new (pc := 116) (c := 7) 700001 rfl (by decide +kernel) (by first | decide | omega) ⟨by decide, by decide⟩ (by decide) cl_X9_9 wN_7.1 wN_7.2 ⟨by decide, by decide⟩ dX9_init_116 ?_
  show G _ _ _ _ _ _ _ _ hS_25
  refine G_dup (pc := 119) dX9_init_119 rfl ?_
  refine K_NI0v (pc := 120) (k' := (21, 1797)) mok_X8_init lk_X9_69 rfl (aok0 rfl) dX9_init_120 (C_tableInit (by decide +kernel)) rfl ?_
  refine G_aast (pc := 123) (j := 1) (show xK _ 1800000 = 17 by decide +kernel) (by decide) rfl (by decide +kernel) (by omega) (show xK _ 700001 = 7 by decide +kernel) (by decide) rfl dX9_init_123 ?_
  show G _ _ _ _ _ _ _ _ hS_26
  refine G_iincN (pc := 124) dX9_init_124 rfl (by decide) ?_
  refine G_goto (pc := 127) (tgt := 106) dX9_init_127 (by decide) ?_
  refine G_iload_n (pc := 106) dX9_init_106 rfl ?_
  refine G_iconst (pc := 107) (v := nI 4) dX9_init_107 (by first | rfl | decide) ?_
  refine G_icmp_geN (pc := 108) (tgt := 130) (by omega) (by omega) dX9_init_108 (by decide) (fun h => absurd h (by decide)) (fun _ => ?_)
  refine G_aload_n (pc := 111) dX9_init_111 rfl ?_
  refine G_getS (pc := 112) fl_X9_11 (by decide +kernel) rfl (show xR _ 8 0 800000 = some 1800000 by decide +kernel) dX9_init_112 ?_
  refine G_iload_n (pc := 115) dX9_init_115 rfl ?_
  refine G_new (pc := 116) (c := 7) 700002 rfl (by decide +kernel) (by first | decide | omega) ⟨by decide, by decide⟩ (by decide) cl_X9_9 wN_7.1 wN_7.2 ⟨by decide, by decide⟩ dX9_init_116 ?_
  show G _ _ _ _ _ _ _ _ hS_27
  refine G_dup (pc := 119) dX9_init_119 rfl ?_
  refine K_NI0v (pc := 120) (k' := (22, 1802)) mok_X8_init lk_X9_69 rfl (aok0 rfl) dX9_init_120 (C_tableInit (by decide +kernel)) rfl ?_
  refine G_aast (pc := 123) (j := 2) (show xK _ 1800000 = 17 by decide +kernel) (by decide) rfl (by decide +kernel) (by omega) (show xK _ 700002 = 7 by decide +kernel) (by decide) rfl dX9_init_123 ?_
  show G _ _ _ _ _ _ _ _ hS_28
  refine G_iincN (pc := 124) dX9_init_124 rfl (by decide) ?_
  refine G_goto (pc := 127) (tgt := 106) dX9_init_127 (by decide) ?_
  refine G_iload_n (pc := 106) dX9_init_106 rfl ?_
  refine G_iconst (pc := 107) (v := nI 4) dX9_init_107 (by first | rfl | decide) ?_
  refine G_icmp_geN (pc := 108) (tgt := 130) (by omega) (by omega) dX9_init_108 (by decide) (fun h => absurd h (by decide)) (fun _ => ?_)
  refine G_aload_n (pc := 111) dX9_init_111 rfl ?_
  refine G_getS (pc := 112) fl_X9_11 (by decide +kernel) rfl (show xR _ 8 0 800000 = some 1800000 by decide +kernel) dX9_init_112 ?_
  refine G_iload_n (pc := 115) dX9_init_115 rfl ?_
  refine G_new (pc := 116) (c := 7) 700003 rfl (by decide +kernel) (by first | decide | omega) ⟨by decide, by decide⟩ (by decide) cl_X9_9 wN_7.1 wN_7.2 ⟨by decide, by decide⟩ dX9_init_116 ?_
  show G _ _ _ _ _ _ _ _ hS_29
  refine G_dup (pc := 119) dX9_init_119 rfl ?_
  refine K_NI0v (pc := 120) (k' := (23, 1807)) mok_X8_init lk_X9_69 rfl (aok0 rfl) dX9_init_120 (C_tableInit (by decide +kernel)) rfl ?_
  refine G_aast (pc := 123) (j := 3) (show xK _ 1800000 = 17 by decide +kernel) (by decide) rfl (by decide +kernel) (by omega) (show xK _ 700003 = 7 by decide +kernel) (by decide) rfl dX9_init_123 ?_
  show G _ _ _ _ _ _ _ _ hS_30
  refine G_iincN (pc := 124) dX9_init_124 rfl (by decide) ?_
  refine G_goto (pc := 127) (tgt := 106) dX9_init_127 (by decide) ?_
  refine G_iload_n (pc := 106) dX9_init_106 rfl ?_
  refine G_iconst (pc := 107) (v := nI 4) dX9_init_107 (by first | rfl | decide) ?_
  refine G_icmp_geN (pc := 108) (tgt := 130) (by omega) (by omega) dX9_init_108 (by decide) (fun _ => ?_) (fun h => absurd h (by decide))
  refine G_iconst (pc := 130) (v := nI 0) dX9_init_130 (by first | rfl | decide) ?_
  refine G_istore_n (pc := 131) dX9_init_131 (by decide) ?_
  refine G_iload_n (pc := 132) dX9_init_132 rfl ?_
  refine G_bipush (pc := 133) (v := nI 6) dX9_init_133 (by first | rfl | decide) ?_
  refine G_icmp_geN (pc := 135) (tgt := 157) (by omega) (by omega) dX9_init_135 (by decide) (fun h => absurd h (by decide)) (fun _ => ?_)
  refine G_aload_n (pc := 138) dX9_init_138 rfl ?_
  refine G_getS (pc := 139) fl_X9_17 (by decide +kernel) rfl (show xR _ 8 1 800000 = some 1800001 by decide +kernel) dX9_init_139 ?_
  refine G_iload_n (pc := 142) dX9_init_142 rfl ?_
  refine G_new (pc := 143) (c := 1) 100000 rfl (by decide +kernel) (by first | decide | omega) ⟨by decide, by decide⟩ (by decide) cl_X9_15 wN_1.1 wN_1.2 ⟨by decide, by decide⟩ dX9_init_143 ?_
  show G _ _ _ _ _ _ _ _ hS_31
  refine G_dup (pc := 146) dX9_init_146 rfl ?_
  refine K_NI0v (pc := 147) (k' := (24, 1809)) mok_X1_init lk_X9_70 rfl (aok0 rfl) dX9_init_147 (C_cueInit (by decide +kernel)) rfl ?_
  refine G_aast (pc := 150) (j := 0) (show xK _ 1800001 = 12 by decide +kernel) (by decide) rfl (by decide +kernel) (by omega) (show xK _ 100000 = 1 by decide +kernel) (by decide) rfl dX9_init_150 ?_
  show G _ _ _ _ _ _ _ _ hS_32
  refine G_iincN (pc := 151) dX9_init_151 rfl (by decide) ?_
  refine G_goto (pc := 154) (tgt := 132) dX9_init_154 (by decide) ?_
  refine G_iload_n (pc := 132) dX9_init_132 rfl ?_
  refine G_bipush (pc := 133) (v := nI 6) dX9_init_133 (by first | rfl | decide) ?_
  refine G_icmp_geN (pc := 135) (tgt := 157) (by omega) (by omega) dX9_init_135 (by decide) (fun h => absurd h (by decide)) (fun _ => ?_)
  refine G_aload_n (pc := 138) dX9_init_138 rfl ?_
  refine G_getS (pc := 139) fl_X9_17 (by decide +kernel) rfl (show xR _ 8 1 800000 = some 1800001 by decide +kernel) dX9_init_139 ?_
  refine G_iload_n (pc := 142) dX9_init_142 rfl ?_
  refine G_new (pc := 143) (c := 1) 100001 rfl (by decide +kernel) (by first | decide | omega) ⟨by decide, by decide⟩ (by decide) cl_X9_15 wN_1.1 wN_1.2 ⟨by decide, by decide⟩ dX9_init_143 ?_
  show G _ _ _ _ _ _ _ _ hS_33
  refine G_dup (pc := 146) dX9_init_146 rfl ?_
  refine K_NI0v (pc := 147) (k' := (25, 1811)) mok_X1_init lk_X9_70 rfl (aok0 rfl) dX9_init_147 (C_cueInit (by decide +kernel)) rfl ?_
  refine G_aast (pc := 150) (j := 1) (show xK _ 1800001 = 12 by decide +kernel) (by decide) rfl (by decide +kernel) (by omega) (show xK _ 100001 = 1 by decide +kernel) (by decide) rfl dX9_init_150 ?_
  show G _ _ _ _ _ _ _ _ hS_34
  refine G_iincN (pc := 151) dX9_init_151 rfl (by decide) ?_
  refine G_goto (pc := 154) (tgt := 132) dX9_init_154 (by decide) ?_
  refine G_iload_n (pc := 132) dX9_init_132 rfl ?_
  refine G_bipush (pc := 133) (v := nI 6) dX9_init_133 (by first | rfl | decide) ?_
  refine G_icmp_geN (pc := 135) (tgt := 157) (by omega) (by omega) dX9_init_135 (by decide) (fun h => absurd h (by decide)) (fun _ => ?_)
  refine G_aload_n (pc := 138) dX9_init_138 rfl ?_
  refine G_getS (pc := 139) fl_X9_17 (by decide +kernel) rfl (show xR _ 8 1 800000 = some 1800001 by decide +kernel) dX9_init_139 ?_
  refine G_iload_n (pc := 142) dX9_init_142 rfl ?_
  refine G_new (pc := 143) (c := 1) 100002 rfl (by decide +kernel) (by first | decide | omega) ⟨by decide, by decide⟩ (by decide) cl_X9_15 wN_1.1 wN_1.2 ⟨by decide, by decide⟩ dX9_init_143 ?_
  show G _ _ _ _ _ _ _ _ hS_35
  refine G_dup (pc := 146) dX9_init_146 rfl ?_
  refine K_NI0v (pc := 147) (k' := (26, 1813)) mok_X1_init lk_X9_70 rfl (aok0 rfl) dX9_init_147 (C_cueInit (by decide +kernel)) rfl ?_
  refine G_aast (pc := 150) (j := 2) (show xK _ 1800001 = 12 by decide +kernel) (by decide) rfl (by decide +kernel) (by omega) (show xK _ 100002 = 1 by decide +kernel) (by decide) rfl dX9_init_150 ?_
  show G _ _ _ _ _ _ _ _ hS_36
  refine G_iincN (pc := 151) dX9_init_151 rfl (by decide) ?_
  refine G_goto (pc := 154) (tgt := 132) dX9_init_154 (by decide) ?_
  refine G_iload_n (pc := 132) dX9_init_132 rfl ?_
  refine G_bipush (pc := 133) (v := nI 6) dX9_init_133 (by first | rfl | decide) ?_
  refine G_icmp_geN (pc := 135) (tgt := 157) (by omega) (by omega) dX9_init_135 (by decide) (fun h => absurd h (by decide)) (fun _ => ?_)
  refine G_aload_n (pc := 138) dX9_init_138 rfl ?_
  refine G_getS (pc := 139) fl_X9_17 (by decide +kernel) rfl (show xR _ 8 1 800000 = some 1800001 by decide +kernel) dX9_init_139 ?_
  refine G_iload_n (pc := 142) dX9_init_142 rfl ?_
  refine G_new (pc := 143) (c := 1) 100003 rfl (by decide +kernel) (by first | decide | omega) ⟨by decide, by decide⟩ (by decide) cl_X9_15 wN_1.1 wN_1.2 ⟨by decide, by decide⟩ dX9_init_143 ?_
  show G _ _ _ _ _ _ _ _ hS_37
  refine G_dup (pc := 146) dX9_init_146 rfl ?_
  refine K_NI0v (pc := 147) (k' := (27, 1815)) mok_X1_init lk_X9_70 rfl (aok0 rfl) dX9_init_147 (C_cueInit (by decide +kernel)) rfl ?_
  refine G_aast (pc := 150) (j := 3) (show xK _ 1800001 = 12 by decide +kernel) (by decide) rfl (by decide +kernel) (by omega) (show xK _ 100003 = 1 by decide +kernel) (by decide) rfl dX9_init_150 ?_
  show G _ _ _ _ _ _ _ _ hS_38
  refine G_iincN (pc := 151) dX9_init_151 rfl (by decide) ?_
  refine G_goto (pc := 154) (tgt := 132) dX9_init_154 (by decide) ?_
  refine G_iload_n (pc := 132) dX9_init_132 rfl ?_
  refine G_bipush (pc := 133) (v := nI 6) dX9_init_133 (by first | rfl | decide) ?_
  refine G_icmp_geN (pc := 135) (tgt := 157) (by omega) (by omega) dX9_init_135 (by decide) (fun h => absurd h (by decide)) (fun _ => ?_)
  refine G_aload_n (pc := 138) dX9_init_138 rfl ?_
  refine G_getS (pc := 139) fl_X9_17 (by decide +kernel) rfl (show xR _ 8 1 800000 = some 1800001 by decide +kernel) dX9_init_139 ?_
  refine G_iload_n (pc := 142) dX9_init_142 rfl ?_
  refine G_new (pc := 143) (c := 1) 100004 rfl (by decide +kernel) (by first | decide | omega) ⟨by decide, by decide⟩ (by decide) cl_X9_15 wN_1.1 wN_1.2 ⟨by decide, by decide⟩ dX9_init_143 ?_
  show G _ _ _ _ _ _ _ _ hS_39
  refine G_dup (pc := 146) dX9_init_146 rfl ?_
  refine K_NI0v (pc := 147) (k' := (28, 1817)) mok_X1_init lk_X9_70 rfl (aok0 rfl) dX9_init_147 (C_cueInit (by decide +kernel)) rfl ?_
  refine G_aast (pc := 150) (j := 4) (show xK _ 1800001 = 12 by decide +kernel) (by decide) rfl (by decide +kernel) (by omega) (show xK _ 100004 = 1 by decide +kernel) (by decide) rfl dX9_init_150 ?_
  show G _ _ _ _ _ _ _ _ hS_40
  refine G_iincN (pc := 151) dX9_init_151 rfl (by decide) ?_
  refine G_goto (pc := 154) (tgt := 132) dX9_init_154 (by decide) ?_
  refine G_iload_n (pc := 132) dX9_init_132 rfl ?_
  refine G_bipush (pc := 133) (v := nI 6) dX9_init_133 (by first | rfl | decide) ?_
  refine G_icmp_geN (pc := 135) (tgt := 157) (by omega) (by omega) dX9_init_135 (by decide) (fun h => absurd h (by decide)) (fun _ => ?_)
  refine G_aload_n (pc := 138) dX9_init_138 rfl ?_
  refine G_getS (pc := 139) fl_X9_17 (by decide +kernel) rfl (show xR _ 8 1 800000 = some 1800001 by decide +kernel) dX9_init_139 ?_
  refine G_iload_n (pc := 142) dX9_init_142 rfl ?_
  refine G_new (pc := 143) (c := 1) 100005 rfl (by decide +kernel) (by first | decide | omega) ⟨by decide, by decide⟩ (by decide) cl_X9_15 wN_1.1 wN_1.2 ⟨by decide, by decide⟩ dX9_init_143 ?_
  show G _ _ _ _ _ _ _ _ hS_41
  refine G_dup (pc := 146) dX9_init_146 rfl ?_
  refine K_NI0v (pc := 147) (k' := (29, 1819)) mok_X1_init lk_X9_70 rfl (aok0 rfl) dX9_init_147 (C_cueInit (by decide +kernel)) rfl ?_
  refine G_aast (pc := 150) (j := 5) (show xK _ 1800001 = 12 by decide +kernel) (by decide) rfl (by decide +kernel) (by omega) (show xK _ 100005 = 1 by decide +kernel) (by decide) rfl dX9_init_150 ?_
  show G _ _ _ _ _ _ _ _ hS_42
  refine G_iincN (pc := 151) dX9_init_151 rfl (by decide) ?_
  refine G_goto (pc := 154) (tgt := 132) dX9_init_154 (by decide) ?_
  refine G_iload_n (pc := 132) dX9_init_132 rfl ?_
  refine G_bipush (pc := 133) (v := nI 6) dX9_init_133 (by first | rfl | decide) ?_
  refine G_icmp_geN (pc := 135) (tgt := 157) (by omega) (by omega) dX9_init_135 (by decide) (fun _ => ?_) (fun h => absurd h (by decide))
  refine G_vret (pc := 157) VZ.n dX9_init_157 rfl ⟨by decide, by decide⟩ ?_
  exact ⟨rfl, rfl⟩
def hS : HS := hS_42
