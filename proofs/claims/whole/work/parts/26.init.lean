-- ===== the model: its beginning =====
theorem xK_sR (X : HS) (c k a : Nat) (v : Option Nat) (b : Nat) : xK (sR X c k a v) b = xK X b := rfl
theorem xK_sI (X : HS) (c k a : Nat) (v : Int32) (b : Nat) : xK (sI X c k a v) b = xK X b := rfl
theorem xK_nA {X : HS} {q kd n a : Nat} {f : Nat → Int32} (h : a ≠ q) : xK (nA X q kd n f) a = xK X a := va_up_ne _ _ h
theorem xK_nAs {X : HS} {q kd n : Nat} {f : Nat → Int32} : xK (nA X q kd n f) q = kd := va_up_self _ _ _
def iM_1 (Y : HS) : HS := sI Y 9 1 900000 (nI 6)
theorem i9_1 {Y : HS} (h9 : xK Y 900000 = 9) : xK (iM_1 Y) 900000 = 9 := h9
theorem i99_1 {Y : HS} (h99 : ∀ k, k < 26 → xK Y (1900100 + k) = 99) : ∀ k, 0 < k → k < 26 → xK (iM_1 Y) (1900100 + k) = 99 := fun k _ h2 => h99 k h2
def iM_2 (Y : HS) : HS := sR (nA (iM_1 Y) 1900102 11 4 (fun _ => 0)) 9 2 900000 (some 1900102)
theorem i9_2 {Y : HS} (h9 : xK Y 900000 = 9) : xK (iM_2 Y) 900000 = 9 := by
  unfold iM_2
  rw [xK_sR, xK_nA (by decide)]
  exact i9_1 h9
theorem i99_2 {Y : HS} (h99 : ∀ k, k < 26 → xK Y (1900100 + k) = 99) : ∀ k, 2 < k → k < 26 → xK (iM_2 Y) (1900100 + k) = 99 := by
  intro k h1 h2
  unfold iM_2
  rw [xK_sR, xK_nA (by omega)]
  exact i99_1 h99 k (by omega) h2
def iM_3 (Y : HS) : HS := sR (nA (iM_2 Y) 1900103 10 4 (fun _ => 0)) 9 3 900000 (some 1900103)
theorem i9_3 {Y : HS} (h9 : xK Y 900000 = 9) : xK (iM_3 Y) 900000 = 9 := by
  unfold iM_3
  rw [xK_sR, xK_nA (by decide)]
  exact i9_2 h9
theorem i99_3 {Y : HS} (h99 : ∀ k, k < 26 → xK Y (1900100 + k) = 99) : ∀ k, 3 < k → k < 26 → xK (iM_3 Y) (1900100 + k) = 99 := by
  intro k h1 h2
  unfold iM_3
  rw [xK_sR, xK_nA (by omega)]
  exact i99_2 h99 k (by omega) h2
def iM_4 (Y : HS) : HS := sR (nA (iM_3 Y) 1900104 10 4 (fun _ => 0)) 9 4 900000 (some 1900104)
theorem i9_4 {Y : HS} (h9 : xK Y 900000 = 9) : xK (iM_4 Y) 900000 = 9 := by
  unfold iM_4
  rw [xK_sR, xK_nA (by decide)]
  exact i9_3 h9
theorem i99_4 {Y : HS} (h99 : ∀ k, k < 26 → xK Y (1900100 + k) = 99) : ∀ k, 4 < k → k < 26 → xK (iM_4 Y) (1900100 + k) = 99 := by
  intro k h1 h2
  unfold iM_4
  rw [xK_sR, xK_nA (by omega)]
  exact i99_3 h99 k (by omega) h2
def iM_5 (Y : HS) : HS := sR (nA (iM_4 Y) 1900105 10 4 (fun _ => 0)) 9 5 900000 (some 1900105)
theorem i9_5 {Y : HS} (h9 : xK Y 900000 = 9) : xK (iM_5 Y) 900000 = 9 := by
  unfold iM_5
  rw [xK_sR, xK_nA (by decide)]
  exact i9_4 h9
theorem i99_5 {Y : HS} (h99 : ∀ k, k < 26 → xK Y (1900100 + k) = 99) : ∀ k, 5 < k → k < 26 → xK (iM_5 Y) (1900100 + k) = 99 := by
  intro k h1 h2
  unfold iM_5
  rw [xK_sR, xK_nA (by omega)]
  exact i99_4 h99 k (by omega) h2
def iM_6 (Y : HS) : HS := sR (nA (iM_5 Y) 1900106 10 8 (fun _ => 0)) 9 6 900000 (some 1900106)
theorem i9_6 {Y : HS} (h9 : xK Y 900000 = 9) : xK (iM_6 Y) 900000 = 9 := by
  unfold iM_6
  rw [xK_sR, xK_nA (by decide)]
  exact i9_5 h9
theorem i99_6 {Y : HS} (h99 : ∀ k, k < 26 → xK Y (1900100 + k) = 99) : ∀ k, 6 < k → k < 26 → xK (iM_6 Y) (1900100 + k) = 99 := by
  intro k h1 h2
  unfold iM_6
  rw [xK_sR, xK_nA (by omega)]
  exact i99_5 h99 k (by omega) h2
def iM_7 (Y : HS) : HS := sR (nA (iM_6 Y) 1900107 10 6 (fun _ => 0)) 9 7 900000 (some 1900107)
theorem i9_7 {Y : HS} (h9 : xK Y 900000 = 9) : xK (iM_7 Y) 900000 = 9 := by
  unfold iM_7
  rw [xK_sR, xK_nA (by decide)]
  exact i9_6 h9
theorem i99_7 {Y : HS} (h99 : ∀ k, k < 26 → xK Y (1900100 + k) = 99) : ∀ k, 7 < k → k < 26 → xK (iM_7 Y) (1900100 + k) = 99 := by
  intro k h1 h2
  unfold iM_7
  rw [xK_sR, xK_nA (by omega)]
  exact i99_6 h99 k (by omega) h2
def iM_8 (Y : HS) : HS := sR (nA (iM_7 Y) 1900108 10 6 (fun _ => 0)) 9 8 900000 (some 1900108)
theorem i9_8 {Y : HS} (h9 : xK Y 900000 = 9) : xK (iM_8 Y) 900000 = 9 := by
  unfold iM_8
  rw [xK_sR, xK_nA (by decide)]
  exact i9_7 h9
theorem i99_8 {Y : HS} (h99 : ∀ k, k < 26 → xK Y (1900100 + k) = 99) : ∀ k, 8 < k → k < 26 → xK (iM_8 Y) (1900100 + k) = 99 := by
  intro k h1 h2
  unfold iM_8
  rw [xK_sR, xK_nA (by omega)]
  exact i99_7 h99 k (by omega) h2
def iM_9 (Y : HS) : HS := sR (nA (iM_8 Y) 1900109 10 6 (fun _ => 0)) 9 9 900000 (some 1900109)
theorem i9_9 {Y : HS} (h9 : xK Y 900000 = 9) : xK (iM_9 Y) 900000 = 9 := by
  unfold iM_9
  rw [xK_sR, xK_nA (by decide)]
  exact i9_8 h9
theorem i99_9 {Y : HS} (h99 : ∀ k, k < 26 → xK Y (1900100 + k) = 99) : ∀ k, 9 < k → k < 26 → xK (iM_9 Y) (1900100 + k) = 99 := by
  intro k h1 h2
  unfold iM_9
  rw [xK_sR, xK_nA (by omega)]
  exact i99_8 h99 k (by omega) h2
def iM_10 (Y : HS) : HS := sR (nA (iM_9 Y) 1900111 10 40 (fun _ => 0)) 9 11 900000 (some 1900111)
theorem i9_10 {Y : HS} (h9 : xK Y 900000 = 9) : xK (iM_10 Y) 900000 = 9 := by
  unfold iM_10
  rw [xK_sR, xK_nA (by decide)]
  exact i9_9 h9
theorem i99_10 {Y : HS} (h99 : ∀ k, k < 26 → xK Y (1900100 + k) = 99) : ∀ k, 11 < k → k < 26 → xK (iM_10 Y) (1900100 + k) = 99 := by
  intro k h1 h2
  unfold iM_10
  rw [xK_sR, xK_nA (by omega)]
  exact i99_9 h99 k (by omega) h2
def iM_11 (Y : HS) : HS := sR (nA (iM_10 Y) 1900112 11 20 (fun _ => 0)) 9 12 900000 (some 1900112)
theorem i9_11 {Y : HS} (h9 : xK Y 900000 = 9) : xK (iM_11 Y) 900000 = 9 := by
  unfold iM_11
  rw [xK_sR, xK_nA (by decide)]
  exact i9_10 h9
theorem i99_11 {Y : HS} (h99 : ∀ k, k < 26 → xK Y (1900100 + k) = 99) : ∀ k, 12 < k → k < 26 → xK (iM_11 Y) (1900100 + k) = 99 := by
  intro k h1 h2
  unfold iM_11
  rw [xK_sR, xK_nA (by omega)]
  exact i99_10 h99 k (by omega) h2
def iM_12 (Y : HS) : HS := sR (nA (iM_11 Y) 1900113 10 20 (fun _ => 0)) 9 13 900000 (some 1900113)
theorem i9_12 {Y : HS} (h9 : xK Y 900000 = 9) : xK (iM_12 Y) 900000 = 9 := by
  unfold iM_12
  rw [xK_sR, xK_nA (by decide)]
  exact i9_11 h9
theorem i99_12 {Y : HS} (h99 : ∀ k, k < 26 → xK Y (1900100 + k) = 99) : ∀ k, 13 < k → k < 26 → xK (iM_12 Y) (1900100 + k) = 99 := by
  intro k h1 h2
  unfold iM_12
  rw [xK_sR, xK_nA (by omega)]
  exact i99_11 h99 k (by omega) h2
def iM_13 (Y : HS) : HS := sR (nA (iM_12 Y) 1900114 10 20 (fun _ => 0)) 9 14 900000 (some 1900114)
theorem i9_13 {Y : HS} (h9 : xK Y 900000 = 9) : xK (iM_13 Y) 900000 = 9 := by
  unfold iM_13
  rw [xK_sR, xK_nA (by decide)]
  exact i9_12 h9
theorem i99_13 {Y : HS} (h99 : ∀ k, k < 26 → xK Y (1900100 + k) = 99) : ∀ k, 14 < k → k < 26 → xK (iM_13 Y) (1900100 + k) = 99 := by
  intro k h1 h2
  unfold iM_13
  rw [xK_sR, xK_nA (by omega)]
  exact i99_12 h99 k (by omega) h2
def iM_14 (Y : HS) : HS := sR (nA (iM_13 Y) 1900115 10 40 (fun _ => 0)) 9 15 900000 (some 1900115)
theorem i9_14 {Y : HS} (h9 : xK Y 900000 = 9) : xK (iM_14 Y) 900000 = 9 := by
  unfold iM_14
  rw [xK_sR, xK_nA (by decide)]
  exact i9_13 h9
theorem i99_14 {Y : HS} (h99 : ∀ k, k < 26 → xK Y (1900100 + k) = 99) : ∀ k, 15 < k → k < 26 → xK (iM_14 Y) (1900100 + k) = 99 := by
  intro k h1 h2
  unfold iM_14
  rw [xK_sR, xK_nA (by omega)]
  exact i99_13 h99 k (by omega) h2
def iM_15 (Y : HS) : HS := sR (nA (iM_14 Y) 1900116 11 20 (fun _ => 0)) 9 16 900000 (some 1900116)
theorem i9_15 {Y : HS} (h9 : xK Y 900000 = 9) : xK (iM_15 Y) 900000 = 9 := by
  unfold iM_15
  rw [xK_sR, xK_nA (by decide)]
  exact i9_14 h9
theorem i99_15 {Y : HS} (h99 : ∀ k, k < 26 → xK Y (1900100 + k) = 99) : ∀ k, 16 < k → k < 26 → xK (iM_15 Y) (1900100 + k) = 99 := by
  intro k h1 h2
  unfold iM_15
  rw [xK_sR, xK_nA (by omega)]
  exact i99_14 h99 k (by omega) h2
def iM_16 (Y : HS) : HS := sR (nA (iM_15 Y) 1900117 10 20 (fun _ => 0)) 9 17 900000 (some 1900117)
theorem i9_16 {Y : HS} (h9 : xK Y 900000 = 9) : xK (iM_16 Y) 900000 = 9 := by
  unfold iM_16
  rw [xK_sR, xK_nA (by decide)]
  exact i9_15 h9
theorem i99_16 {Y : HS} (h99 : ∀ k, k < 26 → xK Y (1900100 + k) = 99) : ∀ k, 17 < k → k < 26 → xK (iM_16 Y) (1900100 + k) = 99 := by
  intro k h1 h2
  unfold iM_16
  rw [xK_sR, xK_nA (by omega)]
  exact i99_15 h99 k (by omega) h2
def iM_17 (Y : HS) : HS := sR (nA (iM_16 Y) 1900118 10 160 (fun _ => 0)) 9 18 900000 (some 1900118)
theorem i9_17 {Y : HS} (h9 : xK Y 900000 = 9) : xK (iM_17 Y) 900000 = 9 := by
  unfold iM_17
  rw [xK_sR, xK_nA (by decide)]
  exact i9_16 h9
theorem i99_17 {Y : HS} (h99 : ∀ k, k < 26 → xK Y (1900100 + k) = 99) : ∀ k, 18 < k → k < 26 → xK (iM_17 Y) (1900100 + k) = 99 := by
  intro k h1 h2
  unfold iM_17
  rw [xK_sR, xK_nA (by omega)]
  exact i99_16 h99 k (by omega) h2
def iM_18 (Y : HS) : HS := sR (nA (iM_17 Y) 1900119 10 8 (fun _ => 0)) 9 19 900000 (some 1900119)
theorem i9_18 {Y : HS} (h9 : xK Y 900000 = 9) : xK (iM_18 Y) 900000 = 9 := by
  unfold iM_18
  rw [xK_sR, xK_nA (by decide)]
  exact i9_17 h9
theorem i99_18 {Y : HS} (h99 : ∀ k, k < 26 → xK Y (1900100 + k) = 99) : ∀ k, 19 < k → k < 26 → xK (iM_18 Y) (1900100 + k) = 99 := by
  intro k h1 h2
  unfold iM_18
  rw [xK_sR, xK_nA (by omega)]
  exact i99_17 h99 k (by omega) h2
def iM_19 (Y : HS) : HS := sR (nA (iM_18 Y) 1900120 10 8 (fun _ => 0)) 9 20 900000 (some 1900120)
theorem i9_19 {Y : HS} (h9 : xK Y 900000 = 9) : xK (iM_19 Y) 900000 = 9 := by
  unfold iM_19
  rw [xK_sR, xK_nA (by decide)]
  exact i9_18 h9
theorem i99_19 {Y : HS} (h99 : ∀ k, k < 26 → xK Y (1900100 + k) = 99) : ∀ k, 20 < k → k < 26 → xK (iM_19 Y) (1900100 + k) = 99 := by
  intro k h1 h2
  unfold iM_19
  rw [xK_sR, xK_nA (by omega)]
  exact i99_18 h99 k (by omega) h2
def iM_20 (Y : HS) : HS := sR (nA (iM_19 Y) 1900121 10 8 (fun _ => 0)) 9 21 900000 (some 1900121)
theorem i9_20 {Y : HS} (h9 : xK Y 900000 = 9) : xK (iM_20 Y) 900000 = 9 := by
  unfold iM_20
  rw [xK_sR, xK_nA (by decide)]
  exact i9_19 h9
theorem i99_20 {Y : HS} (h99 : ∀ k, k < 26 → xK Y (1900100 + k) = 99) : ∀ k, 21 < k → k < 26 → xK (iM_20 Y) (1900100 + k) = 99 := by
  intro k h1 h2
  unfold iM_20
  rw [xK_sR, xK_nA (by omega)]
  exact i99_19 h99 k (by omega) h2
def iM (Y : HS) : HS := iM_20 Y
theorem C_modelInit {Γ : GTy} {Y : HS} (h9 : xK Y 900000 = 9) (h99 : ∀ k, k < 26 → xK Y (1900100 + k) = 99) : Tn Γ M_X10_init [.ref 900000] Y (rt none (iM Y)) := by
  refine Tn_of' rfl rfl rfl ?_
  show G Γ M_X10_init (rm M_X10_init) (Vn Γ M_X10_init (rt none (iM Y))) (0, 0) 0 [some (.ref 900000)] [] Y
  refine G_aload_n (pc := 0) dX10_init_0 rfl ?_
  refine G_objInit (pc := 1) lo_X10_1 wIO ⟨by decide, Nat.le_of_ble_eq_true rfl⟩ dX10_init_1 ?_
  refine G_aload_n (pc := 4) dX10_init_4 rfl ?_
  refine G_bipush (pc := 5) (v := nI 6) dX10_init_5 (by first | rfl | decide) ?_
  refine G_putI (pc := 7) fl_X10_7 fw_9_1 h9 rfl dX10_init_7 ?_
  show G _ _ _ _ _ _ _ _ (iM_1 Y)
  refine G_aload_n (pc := 10) dX10_init_10 rfl ?_
  refine G_iconst (pc := 11) (v := nI 4) dX10_init_11 (by first | rfl | decide) ?_
  refine G_newZ (pc := 12) (N := 4) 1900102 rfl (i99_1 h99 2 (by decide) (by decide)) (by first | decide | omega) ⟨by decide, by decide⟩ wA_boolean rfl (by decide) ⟨by decide, by decide⟩ dX10_init_12 ?_
  refine G_putAF (pc := 14) (o := some _) rfl (fun _ h => by cases h; rw [xK_nAs]; decide) fl_X10_13 ff_X10_9_2 rfl ((xK_nA (by decide)).trans (i9_1 h9)) rfl dX10_init_14 ?_
  show G _ _ _ _ _ _ _ _ (iM_2 Y)
  refine G_aload_n (pc := 17) dX10_init_17 rfl ?_
  refine G_iconst (pc := 18) (v := nI 4) dX10_init_18 (by first | rfl | decide) ?_
  refine G_newI (pc := 19) (N := 4) 1900103 rfl (i99_2 h99 3 (by decide) (by decide)) (by first | decide | omega) ⟨by decide, by decide⟩ wA_int rfl (by decide) ⟨by decide, by decide⟩ dX10_init_19 ?_
  refine G_putAF (pc := 21) (o := some _) rfl (fun _ h => by cases h; rw [xK_nAs]; decide) fl_X10_17 ff_X10_9_3 rfl ((xK_nA (by decide)).trans (i9_2 h9)) rfl dX10_init_21 ?_
  show G _ _ _ _ _ _ _ _ (iM_3 Y)
  refine G_aload_n (pc := 24) dX10_init_24 rfl ?_
  refine G_iconst (pc := 25) (v := nI 4) dX10_init_25 (by first | rfl | decide) ?_
  refine G_newI (pc := 26) (N := 4) 1900104 rfl (i99_3 h99 4 (by decide) (by decide)) (by first | decide | omega) ⟨by decide, by decide⟩ wA_int rfl (by decide) ⟨by decide, by decide⟩ dX10_init_26 ?_
  refine G_putAF (pc := 28) (o := some _) rfl (fun _ h => by cases h; rw [xK_nAs]; decide) fl_X10_21 ff_X10_9_4 rfl ((xK_nA (by decide)).trans (i9_3 h9)) rfl dX10_init_28 ?_
  show G _ _ _ _ _ _ _ _ (iM_4 Y)
  refine G_aload_n (pc := 31) dX10_init_31 rfl ?_
  refine G_iconst (pc := 32) (v := nI 4) dX10_init_32 (by first | rfl | decide) ?_
  refine G_newI (pc := 33) (N := 4) 1900105 rfl (i99_4 h99 5 (by decide) (by decide)) (by first | decide | omega) ⟨by decide, by decide⟩ wA_int rfl (by decide) ⟨by decide, by decide⟩ dX10_init_33 ?_
  refine G_putAF (pc := 35) (o := some _) rfl (fun _ h => by cases h; rw [xK_nAs]; decide) fl_X10_24 ff_X10_9_5 rfl ((xK_nA (by decide)).trans (i9_4 h9)) rfl dX10_init_35 ?_
  show G _ _ _ _ _ _ _ _ (iM_5 Y)
  refine G_aload_n (pc := 38) dX10_init_38 rfl ?_
  refine G_bipush (pc := 39) (v := nI 8) dX10_init_39 (by first | rfl | decide) ?_
  refine G_newI (pc := 41) (N := 8) 1900106 rfl (i99_5 h99 6 (by decide) (by decide)) (by first | decide | omega) ⟨by decide, by decide⟩ wA_int rfl (by decide) ⟨by decide, by decide⟩ dX10_init_41 ?_
  refine G_putAF (pc := 43) (o := some _) rfl (fun _ h => by cases h; rw [xK_nAs]; decide) fl_X10_27 ff_X10_9_6 rfl ((xK_nA (by decide)).trans (i9_5 h9)) rfl dX10_init_43 ?_
  show G _ _ _ _ _ _ _ _ (iM_6 Y)
  refine G_aload_n (pc := 46) dX10_init_46 rfl ?_
  refine G_bipush (pc := 47) (v := nI 6) dX10_init_47 (by first | rfl | decide) ?_
  refine G_newI (pc := 49) (N := 6) 1900107 rfl (i99_6 h99 7 (by decide) (by decide)) (by first | decide | omega) ⟨by decide, by decide⟩ wA_int rfl (by decide) ⟨by decide, by decide⟩ dX10_init_49 ?_
  refine G_putAF (pc := 51) (o := some _) rfl (fun _ h => by cases h; rw [xK_nAs]; decide) fl_X10_30 ff_X10_9_7 rfl ((xK_nA (by decide)).trans (i9_6 h9)) rfl dX10_init_51 ?_
  show G _ _ _ _ _ _ _ _ (iM_7 Y)
  refine G_aload_n (pc := 54) dX10_init_54 rfl ?_
  refine G_bipush (pc := 55) (v := nI 6) dX10_init_55 (by first | rfl | decide) ?_
  refine G_newI (pc := 57) (N := 6) 1900108 rfl (i99_7 h99 8 (by decide) (by decide)) (by first | decide | omega) ⟨by decide, by decide⟩ wA_int rfl (by decide) ⟨by decide, by decide⟩ dX10_init_57 ?_
  refine G_putAF (pc := 59) (o := some _) rfl (fun _ h => by cases h; rw [xK_nAs]; decide) fl_X10_33 ff_X10_9_8 rfl ((xK_nA (by decide)).trans (i9_7 h9)) rfl dX10_init_59 ?_
  show G _ _ _ _ _ _ _ _ (iM_8 Y)
  refine G_aload_n (pc := 62) dX10_init_62 rfl ?_
  refine G_bipush (pc := 63) (v := nI 6) dX10_init_63 (by first | rfl | decide) ?_
  refine G_newI (pc := 65) (N := 6) 1900109 rfl (i99_8 h99 9 (by decide) (by decide)) (by first | decide | omega) ⟨by decide, by decide⟩ wA_int rfl (by decide) ⟨by decide, by decide⟩ dX10_init_65 ?_
  refine G_putAF (pc := 67) (o := some _) rfl (fun _ h => by cases h; rw [xK_nAs]; decide) fl_X10_36 ff_X10_9_9 rfl ((xK_nA (by decide)).trans (i9_8 h9)) rfl dX10_init_67 ?_
  show G _ _ _ _ _ _ _ _ (iM_9 Y)
  refine G_aload_n (pc := 70) dX10_init_70 rfl ?_
  refine G_bipush (pc := 71) (v := nI 40) dX10_init_71 (by first | rfl | decide) ?_
  refine G_newI (pc := 73) (N := 40) 1900111 rfl (i99_9 h99 11 (by decide) (by decide)) (by first | decide | omega) ⟨by decide, by decide⟩ wA_int rfl (by decide) ⟨by decide, by decide⟩ dX10_init_73 ?_
  refine G_putAF (pc := 75) (o := some _) rfl (fun _ h => by cases h; rw [xK_nAs]; decide) fl_X10_39 ff_X10_9_11 rfl ((xK_nA (by decide)).trans (i9_9 h9)) rfl dX10_init_75 ?_
  show G _ _ _ _ _ _ _ _ (iM_10 Y)
  refine G_aload_n (pc := 78) dX10_init_78 rfl ?_
  refine G_bipush (pc := 79) (v := nI 20) dX10_init_79 (by first | rfl | decide) ?_
  refine G_newZ (pc := 81) (N := 20) 1900112 rfl (i99_10 h99 12 (by decide) (by decide)) (by first | decide | omega) ⟨by decide, by decide⟩ wA_boolean rfl (by decide) ⟨by decide, by decide⟩ dX10_init_81 ?_
  refine G_putAF (pc := 83) (o := some _) rfl (fun _ h => by cases h; rw [xK_nAs]; decide) fl_X10_42 ff_X10_9_12 rfl ((xK_nA (by decide)).trans (i9_10 h9)) rfl dX10_init_83 ?_
  show G _ _ _ _ _ _ _ _ (iM_11 Y)
  refine G_aload_n (pc := 86) dX10_init_86 rfl ?_
  refine G_bipush (pc := 87) (v := nI 20) dX10_init_87 (by first | rfl | decide) ?_
  refine G_newI (pc := 89) (N := 20) 1900113 rfl (i99_11 h99 13 (by decide) (by decide)) (by first | decide | omega) ⟨by decide, by decide⟩ wA_int rfl (by decide) ⟨by decide, by decide⟩ dX10_init_89 ?_
  refine G_putAF (pc := 91) (o := some _) rfl (fun _ h => by cases h; rw [xK_nAs]; decide) fl_X10_45 ff_X10_9_13 rfl ((xK_nA (by decide)).trans (i9_11 h9)) rfl dX10_init_91 ?_
  show G _ _ _ _ _ _ _ _ (iM_12 Y)
  refine G_aload_n (pc := 94) dX10_init_94 rfl ?_
  refine G_bipush (pc := 95) (v := nI 20) dX10_init_95 (by first | rfl | decide) ?_
  refine G_newI (pc := 97) (N := 20) 1900114 rfl (i99_12 h99 14 (by decide) (by decide)) (by first | decide | omega) ⟨by decide, by decide⟩ wA_int rfl (by decide) ⟨by decide, by decide⟩ dX10_init_97 ?_
  refine G_putAF (pc := 99) (o := some _) rfl (fun _ h => by cases h; rw [xK_nAs]; decide) fl_X10_48 ff_X10_9_14 rfl ((xK_nA (by decide)).trans (i9_12 h9)) rfl dX10_init_99 ?_
  show G _ _ _ _ _ _ _ _ (iM_13 Y)
  refine G_aload_n (pc := 102) dX10_init_102 rfl ?_
  refine G_bipush (pc := 103) (v := nI 40) dX10_init_103 (by first | rfl | decide) ?_
  refine G_newI (pc := 105) (N := 40) 1900115 rfl (i99_13 h99 15 (by decide) (by decide)) (by first | decide | omega) ⟨by decide, by decide⟩ wA_int rfl (by decide) ⟨by decide, by decide⟩ dX10_init_105 ?_
  refine G_putAF (pc := 107) (o := some _) rfl (fun _ h => by cases h; rw [xK_nAs]; decide) fl_X10_51 ff_X10_9_15 rfl ((xK_nA (by decide)).trans (i9_13 h9)) rfl dX10_init_107 ?_
  show G _ _ _ _ _ _ _ _ (iM_14 Y)
  refine G_aload_n (pc := 110) dX10_init_110 rfl ?_
  refine G_bipush (pc := 111) (v := nI 20) dX10_init_111 (by first | rfl | decide) ?_
  refine G_newZ (pc := 113) (N := 20) 1900116 rfl (i99_14 h99 16 (by decide) (by decide)) (by first | decide | omega) ⟨by decide, by decide⟩ wA_boolean rfl (by decide) ⟨by decide, by decide⟩ dX10_init_113 ?_
  refine G_putAF (pc := 115) (o := some _) rfl (fun _ h => by cases h; rw [xK_nAs]; decide) fl_X10_54 ff_X10_9_16 rfl ((xK_nA (by decide)).trans (i9_14 h9)) rfl dX10_init_115 ?_
  show G _ _ _ _ _ _ _ _ (iM_15 Y)
  refine G_aload_n (pc := 118) dX10_init_118 rfl ?_
  refine G_bipush (pc := 119) (v := nI 20) dX10_init_119 (by first | rfl | decide) ?_
  refine G_newI (pc := 121) (N := 20) 1900117 rfl (i99_15 h99 17 (by decide) (by decide)) (by first | decide | omega) ⟨by decide, by decide⟩ wA_int rfl (by decide) ⟨by decide, by decide⟩ dX10_init_121 ?_
  refine G_putAF (pc := 123) (o := some _) rfl (fun _ h => by cases h; rw [xK_nAs]; decide) fl_X10_57 ff_X10_9_17 rfl ((xK_nA (by decide)).trans (i9_15 h9)) rfl dX10_init_123 ?_
  show G _ _ _ _ _ _ _ _ (iM_16 Y)
  refine G_aload_n (pc := 126) dX10_init_126 rfl ?_
  refine G_sipush (pc := 127) (v := nI 160) dX10_init_127 (by first | rfl | decide) ?_
  refine G_newI (pc := 130) (N := 160) 1900118 rfl (i99_16 h99 18 (by decide) (by decide)) (by first | decide | omega) ⟨by decide, by decide⟩ wA_int rfl (by decide) ⟨by decide, by decide⟩ dX10_init_130 ?_
  refine G_putAF (pc := 132) (o := some _) rfl (fun _ h => by cases h; rw [xK_nAs]; decide) fl_X10_60 ff_X10_9_18 rfl ((xK_nA (by decide)).trans (i9_16 h9)) rfl dX10_init_132 ?_
  show G _ _ _ _ _ _ _ _ (iM_17 Y)
  refine G_aload_n (pc := 135) dX10_init_135 rfl ?_
  refine G_bipush (pc := 136) (v := nI 8) dX10_init_136 (by first | rfl | decide) ?_
  refine G_newI (pc := 138) (N := 8) 1900119 rfl (i99_17 h99 19 (by decide) (by decide)) (by first | decide | omega) ⟨by decide, by decide⟩ wA_int rfl (by decide) ⟨by decide, by decide⟩ dX10_init_138 ?_
  refine G_putAF (pc := 140) (o := some _) rfl (fun _ h => by cases h; rw [xK_nAs]; decide) fl_X10_63 ff_X10_9_19 rfl ((xK_nA (by decide)).trans (i9_17 h9)) rfl dX10_init_140 ?_
  show G _ _ _ _ _ _ _ _ (iM_18 Y)
  refine G_aload_n (pc := 143) dX10_init_143 rfl ?_
  refine G_bipush (pc := 144) (v := nI 8) dX10_init_144 (by first | rfl | decide) ?_
  refine G_newI (pc := 146) (N := 8) 1900120 rfl (i99_18 h99 20 (by decide) (by decide)) (by first | decide | omega) ⟨by decide, by decide⟩ wA_int rfl (by decide) ⟨by decide, by decide⟩ dX10_init_146 ?_
  refine G_putAF (pc := 148) (o := some _) rfl (fun _ h => by cases h; rw [xK_nAs]; decide) fl_X10_66 ff_X10_9_20 rfl ((xK_nA (by decide)).trans (i9_18 h9)) rfl dX10_init_148 ?_
  show G _ _ _ _ _ _ _ _ (iM_19 Y)
  refine G_aload_n (pc := 151) dX10_init_151 rfl ?_
  refine G_bipush (pc := 152) (v := nI 8) dX10_init_152 (by first | rfl | decide) ?_
  refine G_newI (pc := 154) (N := 8) 1900121 rfl (i99_19 h99 21 (by decide) (by decide)) (by first | decide | omega) ⟨by decide, by decide⟩ wA_int rfl (by decide) ⟨by decide, by decide⟩ dX10_init_154 ?_
  refine G_putAF (pc := 156) (o := some _) rfl (fun _ h => by cases h; rw [xK_nAs]; decide) fl_X10_69 ff_X10_9_21 rfl ((xK_nA (by decide)).trans (i9_19 h9)) rfl dX10_init_156 ?_
  show G _ _ _ _ _ _ _ _ (iM_20 Y)
  refine G_vret (pc := 159) VZ.n dX10_init_159 rfl ⟨by decide, by decide⟩ ?_
  exact ⟨rfl, rfl⟩
