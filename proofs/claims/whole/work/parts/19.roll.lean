-- ===== the model: a ball's roll =====
def ex (d : Nat) : Nat := if 1 ≤ d ∧ d ≤ 3 then 2 else if 5 ≤ d ∧ d ≤ 7 then 0 else 1
def ey (d : Nat) : Nat := if 3 ≤ d ∧ d ≤ 5 then 2 else if d = 0 ∨ d = 1 ∨ d = 7 then 0 else 1
theorem ex_le (d : Nat) : ex d ≤ 2 := by unfold ex; split <;> (try split) <;> omega
theorem ey_le (d : Nat) : ey d ≤ 2 := by unfold ey; split <;> (try split) <;> omega
abbrev cin (c d : Nat) : Prop := 1 ≤ c % 16 + ex d ∧ c % 16 + ex d ≤ 16
abbrev rin (c d : Nat) : Prop := 1 ≤ c / 16 + ey d ∧ c / 16 + ey d ≤ 8
def nx (c d : Nat) : Nat := 16 * (c / 16 + ey d - 1) + (c % 16 + ex d - 1)
theorem nx_lt {c d : Nat} (h : cin c d) (g : rin c d) : nx c d < 128 := by unfold nx; have := h.1; have := h.2; have := g.1; have := g.2; omega
def bw1 (c d : Nat) : Nat := if cin c d then d else (8 - d) % 8
def bnc (c d : Nat) : Nat := if rin c d then bw1 c d else (12 - bw1 c d) % 8
theorem bw1_lt {c d : Nat} (h : d < 8) : bw1 c d < 8 := by unfold bw1; split <;> omega
theorem bnc_lt {c d : Nat} (h : d < 8) : bnc c d < 8 := by unfold bnc; have := bw1_lt (c := c) h; split <;> omega
theorem shI {k n : Nat} (hk : k < 100) (hn : n < 100) : (nI 0 ≤ nI k - nI 1 ∧ nI k - nI 1 ≤ nI n) ↔ (1 ≤ k ∧ k ≤ n + 1) := by
  rcases k with _ | k
  · exact ⟨fun h => absurd h.1 (by decide), fun h => absurd h.1 (by omega)⟩
  · rw [pk_sub (by omega), Nat.add_sub_cancel]
    exact ⟨fun h => ⟨by omega, by have := (nI_leI (by omega) (by omega)).mp h.2; omega⟩, fun h => inN (by omega) (by omega)⟩
theorem shA (a b : Nat) : nI a + (nI b - nI 1) = nI (a + b) - nI 1 := by rw [← nI_add a b, Int32.sub_eq_add_neg, Int32.sub_eq_add_neg, Int32.add_assoc]
theorem C_isInS {Γ : GTy} {k n : Nat} (hk : k < 100) (hn : n < 100) (Y : HS) : Tn Γ M_X10_isIn [.int (nI k - nI 1), .int (nI 0), .int (nI n)] Y (rt (some (.int (b2 (1 ≤ k ∧ k ≤ n + 1)))) Y) := by
  have h9 := C_isIn (Γ := Γ) (nI k - nI 1) (nI 0) (nI n) Y
  rw [b2_eq (shI hk hn)] at h9
  exact h9
theorem C_isInD {Γ : GTy} {a l n : Nat} (ha : a < 100) (hl : l < 100) (hn : n < 100) (Y : HS) : Tn Γ M_X10_isIn [.int (nI a), .int (nI l), .int (nI n)] Y (rt (some (.int (b2 (l ≤ a ∧ a ≤ n)))) Y) := by
  have h9 := C_isIn (Γ := Γ) (nI a) (nI l) (nI n) Y
  rw [b2_eq (q := l ≤ a ∧ a ≤ n) (by rw [nI_leI (by omega) (by omega), nI_leI (by omega) (by omega)])] at h9
  exact h9
theorem C_right {Γ : GTy} {d : Nat} (hd : d < 8) (Y : HS) : Tn Γ M_X10_right [.int (nI d)] Y (rt (some (.int (nI (ex d) - nI 1))) Y) := by
  refine Tn_of' rfl rfl rfl ?_
  show G Γ M_X10_right (rm M_X10_right) (Vn Γ M_X10_right (rt (some (.int (nI (ex d) - nI 1))) Y)) (0, 0) 0 [some (.int (nI d))] [] Y
  refine G_iload_n (pc := 0) dX10_right_0 rfl ?_
  refine G_iconst (pc := 1) (v := nI 1) dX10_right_1 (by first | rfl | decide) ?_
  refine G_iconst (pc := 2) (v := nI 3) dX10_right_2 (by first | rfl | decide) ?_
  refine K_Sn3r (pc := 3) (k' := (0, 0)) mok_X10_isIn lk_X10_75 rfl (aok0 rfl) dX10_right_3 (C_isInD (by omega) (by omega) (by omega) _) rfl ?_
  refine G_if_eqB (pc := 6) (tgt := 13) dX10_right_6 (by decide) (fun c6 => ?_) (fun c6 => ?_)
  · skip
    refine G_iload_n (pc := 13) dX10_right_13 rfl ?_
    refine G_iconst (pc := 14) (v := nI 5) dX10_right_14 (by first | rfl | decide) ?_
    refine G_bipush (pc := 15) (v := nI 7) dX10_right_15 (by first | rfl | decide) ?_
    refine K_Sn3r (pc := 17) (k' := (0, 0)) mok_X10_isIn lk_X10_75 rfl (aok0 rfl) dX10_right_17 (C_isInD (by omega) (by omega) (by omega) _) rfl ?_
    refine G_if_eqB (pc := 20) (tgt := 27) dX10_right_20 (by decide) (fun c20 => ?_) (fun c20 => ?_)
    · skip
      refine G_iconst (pc := 27) (v := nI 0) dX10_right_27 (by first | rfl | decide) ?_
      refine G_iret (pc := 28) VZ.n dX10_right_28 rfl ⟨by decide, by decide⟩ ?_
      refine ⟨congrArg (fun z => some (Value.int z)) ?_, rfl⟩
      (first | (rw [show ex d = 2 from by unfold ex; (first | omega | (split <;> (try split) <;> omega))]; rfl) | (rw [show ex d = 0 from by unfold ex; (first | omega | (split <;> (try split) <;> omega))]; rfl) | (rw [show ex d = 1 from by unfold ex; (first | omega | (split <;> (try split) <;> omega))]; rfl))
    · skip
      refine G_iconst (pc := 23) (v := -1) dX10_right_23 (by first | rfl | decide) ?_
      refine G_goto (pc := 24) (tgt := 28) dX10_right_24 (by decide) ?_
      refine G_iret (pc := 28) VZ.n dX10_right_28 rfl ⟨by decide, by decide⟩ ?_
      refine ⟨congrArg (fun z => some (Value.int z)) ?_, rfl⟩
      (first | (rw [show ex d = 2 from by unfold ex; (first | omega | (split <;> (try split) <;> omega))]; rfl) | (rw [show ex d = 0 from by unfold ex; (first | omega | (split <;> (try split) <;> omega))]; rfl) | (rw [show ex d = 1 from by unfold ex; (first | omega | (split <;> (try split) <;> omega))]; rfl))
  · skip
    refine G_iconst (pc := 9) (v := nI 1) dX10_right_9 (by first | rfl | decide) ?_
    refine G_goto (pc := 10) (tgt := 28) dX10_right_10 (by decide) ?_
    refine G_iret (pc := 28) VZ.n dX10_right_28 rfl ⟨by decide, by decide⟩ ?_
    refine ⟨congrArg (fun z => some (Value.int z)) ?_, rfl⟩
    (first | (rw [show ex d = 2 from by unfold ex; (first | omega | (split <;> (try split) <;> omega))]; rfl) | (rw [show ex d = 0 from by unfold ex; (first | omega | (split <;> (try split) <;> omega))]; rfl) | (rw [show ex d = 1 from by unfold ex; (first | omega | (split <;> (try split) <;> omega))]; rfl))
theorem C_down {Γ : GTy} {d : Nat} (hd : d < 8) (Y : HS) : Tn Γ M_X10_down [.int (nI d)] Y (rt (some (.int (nI (ey d) - nI 1))) Y) := by
  refine Tn_of' rfl rfl rfl ?_
  show G Γ M_X10_down (rm M_X10_down) (Vn Γ M_X10_down (rt (some (.int (nI (ey d) - nI 1))) Y)) (0, 0) 0 [some (.int (nI d))] [] Y
  refine G_iload_n (pc := 0) dX10_down_0 rfl ?_
  refine G_iconst (pc := 1) (v := nI 3) dX10_down_1 (by first | rfl | decide) ?_
  refine G_iconst (pc := 2) (v := nI 5) dX10_down_2 (by first | rfl | decide) ?_
  refine K_Sn3r (pc := 3) (k' := (0, 0)) mok_X10_isIn lk_X10_75 rfl (aok0 rfl) dX10_down_3 (C_isInD (by omega) (by omega) (by omega) _) rfl ?_
  refine G_if_eqB (pc := 6) (tgt := 13) dX10_down_6 (by decide) (fun c6 => ?_) (fun c6 => ?_)
  · skip
    refine G_iload_n (pc := 13) dX10_down_13 rfl ?_
    refine G_if_eqN (pc := 14) (tgt := 28) (by omega) dX10_down_14 (by decide) (fun c14 => ?_) (fun c14 => ?_)
    · skip
      refine G_iconst (pc := 28) (v := -1) dX10_down_28 (by first | rfl | decide) ?_
      refine G_goto (pc := 29) (tgt := 33) dX10_down_29 (by decide) ?_
      refine G_iret (pc := 33) VZ.n dX10_down_33 rfl ⟨by decide, by decide⟩ ?_
      refine ⟨congrArg (fun z => some (Value.int z)) ?_, rfl⟩
      (first | (rw [show ey d = 2 from by unfold ey; (first | omega | (split <;> (try split) <;> omega))]; rfl) | (rw [show ey d = 0 from by unfold ey; (first | omega | (split <;> (try split) <;> omega))]; rfl) | (rw [show ey d = 1 from by unfold ey; (first | omega | (split <;> (try split) <;> omega))]; rfl))
    · skip
      refine G_iload_n (pc := 17) dX10_down_17 rfl ?_
      refine G_iconst (pc := 18) (v := nI 1) dX10_down_18 (by first | rfl | decide) ?_
      refine G_icmp_eqN (pc := 19) (tgt := 28) (by omega) (by omega) dX10_down_19 (by decide) (fun c19 => ?_) (fun c19 => ?_)
      · skip
        refine G_iconst (pc := 28) (v := -1) dX10_down_28 (by first | rfl | decide) ?_
        refine G_goto (pc := 29) (tgt := 33) dX10_down_29 (by decide) ?_
        refine G_iret (pc := 33) VZ.n dX10_down_33 rfl ⟨by decide, by decide⟩ ?_
        refine ⟨congrArg (fun z => some (Value.int z)) ?_, rfl⟩
        (first | (rw [show ey d = 2 from by unfold ey; (first | omega | (split <;> (try split) <;> omega))]; rfl) | (rw [show ey d = 0 from by unfold ey; (first | omega | (split <;> (try split) <;> omega))]; rfl) | (rw [show ey d = 1 from by unfold ey; (first | omega | (split <;> (try split) <;> omega))]; rfl))
      · skip
        refine G_iload_n (pc := 22) dX10_down_22 rfl ?_
        refine G_bipush (pc := 23) (v := nI 7) dX10_down_23 (by first | rfl | decide) ?_
        refine G_icmp_neN (pc := 25) (tgt := 32) (by omega) (by omega) dX10_down_25 (by decide) (fun c25 => ?_) (fun c25 => ?_)
        · skip
          refine G_iconst (pc := 32) (v := nI 0) dX10_down_32 (by first | rfl | decide) ?_
          refine G_iret (pc := 33) VZ.n dX10_down_33 rfl ⟨by decide, by decide⟩ ?_
          refine ⟨congrArg (fun z => some (Value.int z)) ?_, rfl⟩
          (first | (rw [show ey d = 2 from by unfold ey; (first | omega | (split <;> (try split) <;> omega))]; rfl) | (rw [show ey d = 0 from by unfold ey; (first | omega | (split <;> (try split) <;> omega))]; rfl) | (rw [show ey d = 1 from by unfold ey; (first | omega | (split <;> (try split) <;> omega))]; rfl))
        · skip
          refine G_iconst (pc := 28) (v := -1) dX10_down_28 (by first | rfl | decide) ?_
          refine G_goto (pc := 29) (tgt := 33) dX10_down_29 (by decide) ?_
          refine G_iret (pc := 33) VZ.n dX10_down_33 rfl ⟨by decide, by decide⟩ ?_
          refine ⟨congrArg (fun z => some (Value.int z)) ?_, rfl⟩
          (first | (rw [show ey d = 2 from by unfold ey; (first | omega | (split <;> (try split) <;> omega))]; rfl) | (rw [show ey d = 0 from by unfold ey; (first | omega | (split <;> (try split) <;> omega))]; rfl) | (rw [show ey d = 1 from by unfold ey; (first | omega | (split <;> (try split) <;> omega))]; rfl))
  · skip
    refine G_iconst (pc := 9) (v := nI 1) dX10_down_9 (by first | rfl | decide) ?_
    refine G_goto (pc := 10) (tgt := 33) dX10_down_10 (by decide) ?_
    refine G_iret (pc := 33) VZ.n dX10_down_33 rfl ⟨by decide, by decide⟩ ?_
    refine ⟨congrArg (fun z => some (Value.int z)) ?_, rfl⟩
    (first | (rw [show ey d = 2 from by unfold ey; (first | omega | (split <;> (try split) <;> omega))]; rfl) | (rw [show ey d = 0 from by unfold ey; (first | omega | (split <;> (try split) <;> omega))]; rfl) | (rw [show ey d = 1 from by unfold ey; (first | omega | (split <;> (try split) <;> omega))]; rfl))
abbrev mIn (F : FT) (x : Int32) : Int32 := lastW (fun k => F 119 k = x) 8
theorem C_inCell {Γ : GTy} {Y : HS} (hS : MS Y) (F : FT) (x : Int32) : Tn Γ M_X10_inCell [.ref 900000, .int x] (wM Y F) (rt (some (.int (mIn F x))) (wM Y F)) := by
  refine Tn_of' rfl rfl rfl ?_
  show G Γ M_X10_inCell (rm M_X10_inCell) (Vn Γ M_X10_inCell (rt (some (.int (mIn F x))) (wM Y F))) (0, 0) 0 [some (.ref 900000), some (.int x), none, none] [] (wM Y F)
  have loop : ∀ (n9 j : Nat), j + n9 = 8 → G Γ M_X10_inCell (rm M_X10_inCell) (Vn Γ M_X10_inCell (rt (some (.int (mIn F x))) (wM Y F))) (0, 0) 4 [some (.ref 900000), some (.int x), some (.int (lastW (fun k => F 119 k = x) j)), some (.int (nI j))] [] (wM Y F) := by
    intro n9
    induction n9 with
    | zero =>
      intro j hj
      obtain rfl : j = 8 := by omega
      refine G_iload_n (pc := 4) dX10_inCell_4 rfl ?_
      refine G_bipush (pc := 5) (v := nI 8) dX10_inCell_5 (by first | rfl | decide) ?_
      refine G_icmp_geN (pc := 7) (tgt := 32) (by omega) (by omega) dX10_inCell_7 (by decide) (fun c7 => ?_) (fun c7 => ?_)
      · skip
        refine G_iload_n (pc := 32) dX10_inCell_32 rfl ?_
        refine G_iret (pc := 33) VZ.n dX10_inCell_33 rfl ⟨by decide, by decide⟩ ?_
        exact ⟨rfl, rfl⟩
      · omega
    | succ n9 ih =>
      intro j hj
      have hj9 : j < 8 := by omega
      refine G_iload_n (pc := 4) dX10_inCell_4 rfl ?_
      refine G_bipush (pc := 5) (v := nI 8) dX10_inCell_5 (by first | rfl | decide) ?_
      refine G_icmp_geN (pc := 7) (tgt := 32) (by omega) (by omega) dX10_inCell_7 (by decide) (fun c7 => ?_) (fun c7 => ?_)
      · omega
      · skip
        refine G_aload_n (pc := 10) dX10_inCell_10 rfl ?_
        refine M_arr (pc := 11) (a := 1900119) hS fl_X10_63 rfl rfl dX10_inCell_11 ?_
        refine G_iload_n (pc := 14) dX10_inCell_14 rfl ?_
        refine M_ld (pc := 15) (kk := 19) (j := j) hS rfl rfl rfl hj9 dX10_inCell_15 ?_
        refine G_iload_n (pc := 16) dX10_inCell_16 rfl ?_
        refine G_icmp_ne (pc := 17) (tgt := 24) dX10_inCell_17 (by decide) (fun c17 => ?_) (fun c17 => ?_)
        · skip
          refine G_iload_n (pc := 24) dX10_inCell_24 rfl ?_
          refine G_istore_n (pc := 25) dX10_inCell_25 (by decide) ?_
          refine G_iincN (pc := 26) dX10_inCell_26 rfl (by decide) ?_
          refine G_goto (pc := 29) (tgt := 4) dX10_inCell_29 (by decide) ?_
          have h9 := ih (j + 1) (by omega)
          simp only [lastW, c17, ↓reduceIte] at h9
          exact h9
        · skip
          refine G_iload_n (pc := 20) dX10_inCell_20 rfl ?_
          refine G_goto (pc := 21) (tgt := 25) dX10_inCell_21 (by decide) ?_
          refine G_istore_n (pc := 25) dX10_inCell_25 (by decide) ?_
          refine G_iincN (pc := 26) dX10_inCell_26 rfl (by decide) ?_
          refine G_goto (pc := 29) (tgt := 4) dX10_inCell_29 (by decide) ?_
          have h9 := ih (j + 1) (by omega)
          simp only [lastW, c17, ↓reduceIte] at h9
          exact h9
  refine G_iconst (pc := 0) (v := -1) dX10_inCell_0 (by first | rfl | decide) ?_
  refine G_istore_n (pc := 1) dX10_inCell_1 (by decide) ?_
  refine G_iconst (pc := 2) (v := nI 0) dX10_inCell_2 (by first | rfl | decide) ?_
  refine G_istore_n (pc := 3) dX10_inCell_3 (by decide) ?_
  exact loop 8 0 rfl
def mOut (F : FT) (b c d : Nat) : FT := u2 (u2 (u2 F 120 b (nI (bw1 c d))) 120 b (nI (bnc c d))) 121 b (F 121 b - nI 1)
def mMeet (F : FT) (b o d : Nat) : FT :=
  u2 (u2 (u2 (u2 (u2 F 121 b (F 121 b - (F 121 b + nI 1) / nI 2)) 121 o (u2 F 121 b (F 121 b - (F 121 b + nI 1) / nI 2) 121 o + (F 121 b + nI 1) / nI 2)) 120 o (nI d)) 23 0 (F 23 0 + nI 1)) 22 0 (if b = 0 ∧ ¬ 0 ≤ F 22 0 then nI o else F 22 0)
def mMove (F : FT) (b x : Nat) : FT := if pkN x then u2 (u2 (u2 (u2 F 119 b (nI x)) 121 b (F 121 b - nI 1)) 119 b (-1)) 24 0 (F 24 0 ||| (nI 1 <<< (nI b &&& 31))) else u2 (u2 F 119 b (nI x)) 121 b (F 121 b - nI 1)
theorem C_rollsOut {Γ : GTy} {Y : HS} (hS : MS Y) (F : FT) {b c d : Nat} (hb : b < 8) (hc : F 119 b = nI c) (c1 : c < 128) (hd : F 120 b = nI d) (d8 : d < 8) (hx : ¬ (cin c d ∧ rin c d)) : Tn Γ M_X10_rolls [.ref 900000, .int (nI b)] (wM Y F) (rt none (wM Y (mOut F b c d))) := by
  refine Tn_of' rfl rfl rfl ?_
  show G Γ M_X10_rolls (rm M_X10_rolls) (Vn Γ M_X10_rolls (rt none (wM Y (mOut F b c d)))) (0, 0) 0 [some (.ref 900000), some (.int (nI b)), none, none, none, none, none, none] [] (wM Y F)
  refine G_aload_n (pc := 0) dX10_rolls_0 rfl ?_
  refine M_arr (pc := 1) (a := 1900119) hS fl_X10_63 rfl rfl dX10_rolls_1 ?_
  refine G_iload_n (pc := 4) dX10_rolls_4 rfl ?_
  refine M_ldv (pc := 5) (kk := 19) (j := b) (v := nI c) hc hS rfl rfl rfl (show b < 8 by omega) dX10_rolls_5 ?_
  refine G_bipush (pc := 6) (v := nI 16) dX10_rolls_6 (by first | rfl | decide) ?_
  refine G_iremN (pc := 8) (by omega) (by omega) (by omega) dX10_rolls_8 ?_
  refine G_aload_n (pc := 9) dX10_rolls_9 rfl ?_
  refine M_arr (pc := 10) (a := 1900120) hS fl_X10_66 rfl rfl dX10_rolls_10 ?_
  refine G_iload_n (pc := 13) dX10_rolls_13 rfl ?_
  refine M_ldv (pc := 14) (kk := 20) (j := b) (v := nI d) hd hS rfl rfl rfl (show b < 8 by omega) dX10_rolls_14 ?_
  refine K_Sn1r (pc := 15) (k' := (0, 0)) mok_X10_right lk_X10_113 rfl (aok0 rfl) dX10_rolls_15 (C_right d8 _) rfl ?_
  refine G_iadd (pc := 18) dX10_rolls_18 ?_
  rw [shA]
  refine G_istore_n (pc := 19) dX10_rolls_19 (by decide) ?_
  refine G_aload_n (pc := 20) dX10_rolls_20 rfl ?_
  refine M_arr (pc := 21) (a := 1900119) hS fl_X10_63 rfl rfl dX10_rolls_21 ?_
  refine G_iload_n (pc := 24) dX10_rolls_24 rfl ?_
  refine M_ldv (pc := 25) (kk := 19) (j := b) (v := nI c) hc hS rfl rfl rfl (show b < 8 by omega) dX10_rolls_25 ?_
  refine G_bipush (pc := 26) (v := nI 16) dX10_rolls_26 (by first | rfl | decide) ?_
  refine G_idivN (pc := 28) (by omega) (by omega) (by omega) dX10_rolls_28 ?_
  refine G_aload_n (pc := 29) dX10_rolls_29 rfl ?_
  refine M_arr (pc := 30) (a := 1900120) hS fl_X10_66 rfl rfl dX10_rolls_30 ?_
  refine G_iload_n (pc := 33) dX10_rolls_33 rfl ?_
  refine M_ldv (pc := 34) (kk := 20) (j := b) (v := nI d) hd hS rfl rfl rfl (show b < 8 by omega) dX10_rolls_34 ?_
  refine K_Sn1r (pc := 35) (k' := (0, 0)) mok_X10_down lk_X10_116 rfl (aok0 rfl) dX10_rolls_35 (C_down d8 _) rfl ?_
  refine G_iadd (pc := 38) dX10_rolls_38 ?_
  rw [shA]
  refine G_istore_n (pc := 39) dX10_rolls_39 (by decide) ?_
  refine G_iload_n (pc := 40) dX10_rolls_40 rfl ?_
  refine G_iconst (pc := 41) (v := nI 0) dX10_rolls_41 (by first | rfl | decide) ?_
  refine G_bipush (pc := 42) (v := nI 15) dX10_rolls_42 (by first | rfl | decide) ?_
  refine K_Sn3r (pc := 44) (k' := (0, 0)) mok_X10_isIn lk_X10_75 rfl (aok0 rfl) dX10_rolls_44 (C_isInS (by have := ex_le d; omega) (by omega) _) rfl ?_
  refine G_if_neB (pc := 47) (tgt := 54) dX10_rolls_47 (by decide) (fun c47 => ?_) (fun c47 => ?_)
  · skip
    refine G_iconst (pc := 54) (v := nI 0) dX10_rolls_54 (by first | rfl | decide) ?_
    refine G_istore (pc := 55) dX10_rolls_55 (by decide) ?_
    refine G_iload_n (pc := 57) dX10_rolls_57 rfl ?_
    refine G_iconst (pc := 58) (v := nI 0) dX10_rolls_58 (by first | rfl | decide) ?_
    refine G_bipush (pc := 59) (v := nI 7) dX10_rolls_59 (by first | rfl | decide) ?_
    refine K_Sn3r (pc := 61) (k' := (0, 0)) mok_X10_isIn lk_X10_75 rfl (aok0 rfl) dX10_rolls_61 (C_isInS (by have := ey_le d; omega) (by omega) _) rfl ?_
    refine G_if_neB (pc := 64) (tgt := 71) dX10_rolls_64 (by decide) (fun c64 => ?_) (fun c64 => ?_)
    · skip
      refine G_iconst (pc := 71) (v := nI 0) dX10_rolls_71 (by first | rfl | decide) ?_
      refine G_istore (pc := 72) dX10_rolls_72 (by decide) ?_
      refine G_iload (pc := 74) dX10_rolls_74 rfl ?_
      refine G_if_neN (pc := 76) (tgt := 84) (by omega) dX10_rolls_76 (by decide) (fun h => absurd h (by decide)) (fun _ => ?_)
      refine G_iload (pc := 79) dX10_rolls_79 rfl ?_
      refine G_if_eqN (pc := 81) (tgt := 159) (by omega) dX10_rolls_81 (by decide) (fun _ => ?_) (fun h => absurd h (by decide))
      exact absurd ⟨c47, c64⟩ hx
    · skip
      refine G_iconst (pc := 67) (v := nI 1) dX10_rolls_67 (by first | rfl | decide) ?_
      refine G_goto (pc := 68) (tgt := 72) dX10_rolls_68 (by decide) ?_
      refine G_istore (pc := 72) dX10_rolls_72 (by decide) ?_
      refine G_iload (pc := 74) dX10_rolls_74 rfl ?_
      refine G_if_neN (pc := 76) (tgt := 84) (by omega) dX10_rolls_76 (by decide) (fun h => absurd h (by decide)) (fun _ => ?_)
      refine G_iload (pc := 79) dX10_rolls_79 rfl ?_
      refine G_if_eqN (pc := 81) (tgt := 159) (by omega) dX10_rolls_81 (by decide) (fun h => absurd h (by decide)) (fun _ => ?_)
      refine G_aload_n (pc := 84) dX10_rolls_84 rfl ?_
      refine M_arr (pc := 85) (a := 1900120) hS fl_X10_66 rfl rfl dX10_rolls_85 ?_
      refine G_iload_n (pc := 88) dX10_rolls_88 rfl ?_
      refine G_iload (pc := 89) dX10_rolls_89 rfl ?_
      refine G_if_eqN (pc := 91) (tgt := 109) (by omega) dX10_rolls_91 (by decide) (fun _ => ?_) (fun h => absurd h (by decide))
      refine G_aload_n (pc := 109) dX10_rolls_109 rfl ?_
      refine M_arr (pc := 110) (a := 1900120) hS fl_X10_66 rfl rfl dX10_rolls_110 ?_
      refine G_iload_n (pc := 113) dX10_rolls_113 rfl ?_
      refine M_ldv (pc := 114) (kk := 20) (j := b) (v := nI d) hd hS rfl rfl rfl (show b < 8 by omega) dX10_rolls_114 ?_
      refine M_st (pc := 115) (kk := 20) (j := b) hS rfl rfl rfl (show b < 8 by omega) dX10_rolls_115 ?_
      refine G_aload_n (pc := 116) dX10_rolls_116 rfl ?_
      refine M_arr (pc := 117) (a := 1900120) hS fl_X10_66 rfl rfl dX10_rolls_117 ?_
      refine G_iload_n (pc := 120) dX10_rolls_120 rfl ?_
      refine G_iload (pc := 121) dX10_rolls_121 rfl ?_
      refine G_if_eqN (pc := 123) (tgt := 141) (by omega) dX10_rolls_123 (by decide) (fun h => absurd h (by decide)) (fun _ => ?_)
      refine G_bipush (pc := 126) (v := nI 12) dX10_rolls_126 (by first | rfl | decide) ?_
      refine G_aload_n (pc := 128) dX10_rolls_128 rfl ?_
      refine M_arr (pc := 129) (a := 1900120) hS fl_X10_66 rfl rfl dX10_rolls_129 ?_
      refine G_iload_n (pc := 132) dX10_rolls_132 rfl ?_
      refine M_ldv (pc := 133) (kk := 20) (j := b) (v := nI (bw1 c d)) (by first | exact (if_pos (⟨rfl, rfl⟩ : (120 : Nat) = 120 ∧ b = b)).trans (congrArg nI (if_pos c47).symm) | exact (if_pos (⟨rfl, rfl⟩ : (120 : Nat) = 120 ∧ b = b)).trans (congrArg nI (if_neg c47).symm)) hS rfl rfl rfl (show b < 8 by omega) dX10_rolls_133 ?_
      have w8 := bw1_lt (c := c) d8
      refine G_isubN (pc := 134) (by omega) dX10_rolls_134 ?_
      refine G_bipush (pc := 135) (v := nI 8) dX10_rolls_135 (by first | rfl | decide) ?_
      refine G_iremN (pc := 137) (by omega) (by omega) (by omega) dX10_rolls_137 ?_
      refine G_goto (pc := 138) (tgt := 147) dX10_rolls_138 (by decide) ?_
      refine M_st (pc := 147) (kk := 20) (j := b) hS rfl rfl rfl (show b < 8 by omega) dX10_rolls_147 ?_
      refine G_aload_n (pc := 148) dX10_rolls_148 rfl ?_
      refine M_arr (pc := 149) (a := 1900121) hS fl_X10_69 rfl rfl dX10_rolls_149 ?_
      refine G_iload_n (pc := 152) dX10_rolls_152 rfl ?_
      refine G_dup2 (pc := 153) dX10_rolls_153 rfl rfl ?_
      refine M_ldv (pc := 154) (kk := 21) (j := b) (v := F 121 b) rfl hS rfl rfl rfl (show b < 8 by omega) dX10_rolls_154 ?_
      refine G_iconst (pc := 155) (v := nI 1) dX10_rolls_155 (by first | rfl | decide) ?_
      refine G_isub (pc := 156) dX10_rolls_156 ?_
      refine M_st (pc := 157) (kk := 21) (j := b) hS rfl rfl rfl (show b < 8 by omega) dX10_rolls_157 ?_
      refine G_vret (pc := 158) VZ.n dX10_rolls_158 rfl ⟨by decide, by decide⟩ ?_
      refine ⟨rfl, ?_⟩
      have e1 : bw1 c d = _ := (by first | exact if_pos c47 | exact if_neg c47)
      have e2 : bnc c d = _ := (by first | exact if_pos c64 | exact if_neg c64)
      unfold mOut
      rw [e2, e1]
      first | done | rfl
  · skip
    refine G_iconst (pc := 50) (v := nI 1) dX10_rolls_50 (by first | rfl | decide) ?_
    refine G_goto (pc := 51) (tgt := 55) dX10_rolls_51 (by decide) ?_
    refine G_istore (pc := 55) dX10_rolls_55 (by decide) ?_
    refine G_iload_n (pc := 57) dX10_rolls_57 rfl ?_
    refine G_iconst (pc := 58) (v := nI 0) dX10_rolls_58 (by first | rfl | decide) ?_
    refine G_bipush (pc := 59) (v := nI 7) dX10_rolls_59 (by first | rfl | decide) ?_
    refine K_Sn3r (pc := 61) (k' := (0, 0)) mok_X10_isIn lk_X10_75 rfl (aok0 rfl) dX10_rolls_61 (C_isInS (by have := ey_le d; omega) (by omega) _) rfl ?_
    refine G_if_neB (pc := 64) (tgt := 71) dX10_rolls_64 (by decide) (fun c64 => ?_) (fun c64 => ?_)
    · skip
      refine G_iconst (pc := 71) (v := nI 0) dX10_rolls_71 (by first | rfl | decide) ?_
      refine G_istore (pc := 72) dX10_rolls_72 (by decide) ?_
      refine G_iload (pc := 74) dX10_rolls_74 rfl ?_
      refine G_if_neN (pc := 76) (tgt := 84) (by omega) dX10_rolls_76 (by decide) (fun _ => ?_) (fun h => absurd h (by decide))
      refine G_aload_n (pc := 84) dX10_rolls_84 rfl ?_
      refine M_arr (pc := 85) (a := 1900120) hS fl_X10_66 rfl rfl dX10_rolls_85 ?_
      refine G_iload_n (pc := 88) dX10_rolls_88 rfl ?_
      refine G_iload (pc := 89) dX10_rolls_89 rfl ?_
      refine G_if_eqN (pc := 91) (tgt := 109) (by omega) dX10_rolls_91 (by decide) (fun h => absurd h (by decide)) (fun _ => ?_)
      refine G_bipush (pc := 94) (v := nI 8) dX10_rolls_94 (by first | rfl | decide) ?_
      refine G_aload_n (pc := 96) dX10_rolls_96 rfl ?_
      refine M_arr (pc := 97) (a := 1900120) hS fl_X10_66 rfl rfl dX10_rolls_97 ?_
      refine G_iload_n (pc := 100) dX10_rolls_100 rfl ?_
      refine M_ldv (pc := 101) (kk := 20) (j := b) (v := nI d) hd hS rfl rfl rfl (show b < 8 by omega) dX10_rolls_101 ?_
      refine G_isubN (pc := 102) (by omega) dX10_rolls_102 ?_
      refine G_bipush (pc := 103) (v := nI 8) dX10_rolls_103 (by first | rfl | decide) ?_
      refine G_iremN (pc := 105) (by omega) (by omega) (by omega) dX10_rolls_105 ?_
      refine G_goto (pc := 106) (tgt := 115) dX10_rolls_106 (by decide) ?_
      refine M_st (pc := 115) (kk := 20) (j := b) hS rfl rfl rfl (show b < 8 by omega) dX10_rolls_115 ?_
      refine G_aload_n (pc := 116) dX10_rolls_116 rfl ?_
      refine M_arr (pc := 117) (a := 1900120) hS fl_X10_66 rfl rfl dX10_rolls_117 ?_
      refine G_iload_n (pc := 120) dX10_rolls_120 rfl ?_
      refine G_iload (pc := 121) dX10_rolls_121 rfl ?_
      refine G_if_eqN (pc := 123) (tgt := 141) (by omega) dX10_rolls_123 (by decide) (fun _ => ?_) (fun h => absurd h (by decide))
      refine G_aload_n (pc := 141) dX10_rolls_141 rfl ?_
      refine M_arr (pc := 142) (a := 1900120) hS fl_X10_66 rfl rfl dX10_rolls_142 ?_
      refine G_iload_n (pc := 145) dX10_rolls_145 rfl ?_
      refine M_ldv (pc := 146) (kk := 20) (j := b) (v := nI (bw1 c d)) (by first | exact (if_pos (⟨rfl, rfl⟩ : (120 : Nat) = 120 ∧ b = b)).trans (congrArg nI (if_pos c47).symm) | exact (if_pos (⟨rfl, rfl⟩ : (120 : Nat) = 120 ∧ b = b)).trans (congrArg nI (if_neg c47).symm)) hS rfl rfl rfl (show b < 8 by omega) dX10_rolls_146 ?_
      refine M_st (pc := 147) (kk := 20) (j := b) hS rfl rfl rfl (show b < 8 by omega) dX10_rolls_147 ?_
      refine G_aload_n (pc := 148) dX10_rolls_148 rfl ?_
      refine M_arr (pc := 149) (a := 1900121) hS fl_X10_69 rfl rfl dX10_rolls_149 ?_
      refine G_iload_n (pc := 152) dX10_rolls_152 rfl ?_
      refine G_dup2 (pc := 153) dX10_rolls_153 rfl rfl ?_
      refine M_ldv (pc := 154) (kk := 21) (j := b) (v := F 121 b) rfl hS rfl rfl rfl (show b < 8 by omega) dX10_rolls_154 ?_
      refine G_iconst (pc := 155) (v := nI 1) dX10_rolls_155 (by first | rfl | decide) ?_
      refine G_isub (pc := 156) dX10_rolls_156 ?_
      refine M_st (pc := 157) (kk := 21) (j := b) hS rfl rfl rfl (show b < 8 by omega) dX10_rolls_157 ?_
      refine G_vret (pc := 158) VZ.n dX10_rolls_158 rfl ⟨by decide, by decide⟩ ?_
      refine ⟨rfl, ?_⟩
      have e1 : bw1 c d = _ := (by first | exact if_pos c47 | exact if_neg c47)
      have e2 : bnc c d = _ := (by first | exact if_pos c64 | exact if_neg c64)
      unfold mOut
      rw [e2, e1]
      first | done | rfl
    · skip
      refine G_iconst (pc := 67) (v := nI 1) dX10_rolls_67 (by first | rfl | decide) ?_
      refine G_goto (pc := 68) (tgt := 72) dX10_rolls_68 (by decide) ?_
      refine G_istore (pc := 72) dX10_rolls_72 (by decide) ?_
      refine G_iload (pc := 74) dX10_rolls_74 rfl ?_
      refine G_if_neN (pc := 76) (tgt := 84) (by omega) dX10_rolls_76 (by decide) (fun _ => ?_) (fun h => absurd h (by decide))
      refine G_aload_n (pc := 84) dX10_rolls_84 rfl ?_
      refine M_arr (pc := 85) (a := 1900120) hS fl_X10_66 rfl rfl dX10_rolls_85 ?_
      refine G_iload_n (pc := 88) dX10_rolls_88 rfl ?_
      refine G_iload (pc := 89) dX10_rolls_89 rfl ?_
      refine G_if_eqN (pc := 91) (tgt := 109) (by omega) dX10_rolls_91 (by decide) (fun h => absurd h (by decide)) (fun _ => ?_)
      refine G_bipush (pc := 94) (v := nI 8) dX10_rolls_94 (by first | rfl | decide) ?_
      refine G_aload_n (pc := 96) dX10_rolls_96 rfl ?_
      refine M_arr (pc := 97) (a := 1900120) hS fl_X10_66 rfl rfl dX10_rolls_97 ?_
      refine G_iload_n (pc := 100) dX10_rolls_100 rfl ?_
      refine M_ldv (pc := 101) (kk := 20) (j := b) (v := nI d) hd hS rfl rfl rfl (show b < 8 by omega) dX10_rolls_101 ?_
      refine G_isubN (pc := 102) (by omega) dX10_rolls_102 ?_
      refine G_bipush (pc := 103) (v := nI 8) dX10_rolls_103 (by first | rfl | decide) ?_
      refine G_iremN (pc := 105) (by omega) (by omega) (by omega) dX10_rolls_105 ?_
      refine G_goto (pc := 106) (tgt := 115) dX10_rolls_106 (by decide) ?_
      refine M_st (pc := 115) (kk := 20) (j := b) hS rfl rfl rfl (show b < 8 by omega) dX10_rolls_115 ?_
      refine G_aload_n (pc := 116) dX10_rolls_116 rfl ?_
      refine M_arr (pc := 117) (a := 1900120) hS fl_X10_66 rfl rfl dX10_rolls_117 ?_
      refine G_iload_n (pc := 120) dX10_rolls_120 rfl ?_
      refine G_iload (pc := 121) dX10_rolls_121 rfl ?_
      refine G_if_eqN (pc := 123) (tgt := 141) (by omega) dX10_rolls_123 (by decide) (fun h => absurd h (by decide)) (fun _ => ?_)
      refine G_bipush (pc := 126) (v := nI 12) dX10_rolls_126 (by first | rfl | decide) ?_
      refine G_aload_n (pc := 128) dX10_rolls_128 rfl ?_
      refine M_arr (pc := 129) (a := 1900120) hS fl_X10_66 rfl rfl dX10_rolls_129 ?_
      refine G_iload_n (pc := 132) dX10_rolls_132 rfl ?_
      refine M_ldv (pc := 133) (kk := 20) (j := b) (v := nI (bw1 c d)) (by first | exact (if_pos (⟨rfl, rfl⟩ : (120 : Nat) = 120 ∧ b = b)).trans (congrArg nI (if_pos c47).symm) | exact (if_pos (⟨rfl, rfl⟩ : (120 : Nat) = 120 ∧ b = b)).trans (congrArg nI (if_neg c47).symm)) hS rfl rfl rfl (show b < 8 by omega) dX10_rolls_133 ?_
      have w8 := bw1_lt (c := c) d8
      refine G_isubN (pc := 134) (by omega) dX10_rolls_134 ?_
      refine G_bipush (pc := 135) (v := nI 8) dX10_rolls_135 (by first | rfl | decide) ?_
      refine G_iremN (pc := 137) (by omega) (by omega) (by omega) dX10_rolls_137 ?_
      refine G_goto (pc := 138) (tgt := 147) dX10_rolls_138 (by decide) ?_
      refine M_st (pc := 147) (kk := 20) (j := b) hS rfl rfl rfl (show b < 8 by omega) dX10_rolls_147 ?_
      refine G_aload_n (pc := 148) dX10_rolls_148 rfl ?_
      refine M_arr (pc := 149) (a := 1900121) hS fl_X10_69 rfl rfl dX10_rolls_149 ?_
      refine G_iload_n (pc := 152) dX10_rolls_152 rfl ?_
      refine G_dup2 (pc := 153) dX10_rolls_153 rfl rfl ?_
      refine M_ldv (pc := 154) (kk := 21) (j := b) (v := F 121 b) rfl hS rfl rfl rfl (show b < 8 by omega) dX10_rolls_154 ?_
      refine G_iconst (pc := 155) (v := nI 1) dX10_rolls_155 (by first | rfl | decide) ?_
      refine G_isub (pc := 156) dX10_rolls_156 ?_
      refine M_st (pc := 157) (kk := 21) (j := b) hS rfl rfl rfl (show b < 8 by omega) dX10_rolls_157 ?_
      refine G_vret (pc := 158) VZ.n dX10_rolls_158 rfl ⟨by decide, by decide⟩ ?_
      refine ⟨rfl, ?_⟩
      have e1 : bw1 c d = _ := (by first | exact if_pos c47 | exact if_neg c47)
      have e2 : bnc c d = _ := (by first | exact if_pos c64 | exact if_neg c64)
      unfold mOut
      rw [e2, e1]
      first | done | rfl
theorem nxI {c d : Nat} (h : cin c d) (g : rin c d) : nI 16 * (nI (c / 16 + ey d) - nI 1) + (nI (c % 16 + ex d) - nI 1) = nI (nx c d) := by
  rw [pk_sub g.1, pk_sub h.1, pk_mul, nI_add]
  rfl
theorem C_rollsMeet {Γ : GTy} {Y : HS} (hS : MS Y) (F : FT) {b c d : Nat} (hb : b < 8) (hc : F 119 b = nI c) (c1 : c < 128) (hd : F 120 b = nI d) (d8 : d < 8) (hx : cin c d ∧ rin c d) {o : Nat} (ho : mIn F (nI (nx c d)) = nI o) (o8 : o < 8) : Tn Γ M_X10_rolls [.ref 900000, .int (nI b)] (wM Y F) (rt none (wM Y (mMeet F b o d))) := by
  refine Tn_of' rfl rfl rfl ?_
  show G Γ M_X10_rolls (rm M_X10_rolls) (Vn Γ M_X10_rolls (rt none (wM Y (mMeet F b o d)))) (0, 0) 0 [some (.ref 900000), some (.int (nI b)), none, none, none, none, none, none] [] (wM Y F)
  refine G_aload_n (pc := 0) dX10_rolls_0 rfl ?_
  refine M_arr (pc := 1) (a := 1900119) hS fl_X10_63 rfl rfl dX10_rolls_1 ?_
  refine G_iload_n (pc := 4) dX10_rolls_4 rfl ?_
  refine M_ldv (pc := 5) (kk := 19) (j := b) (v := nI c) hc hS rfl rfl rfl (show b < 8 by omega) dX10_rolls_5 ?_
  refine G_bipush (pc := 6) (v := nI 16) dX10_rolls_6 (by first | rfl | decide) ?_
  refine G_iremN (pc := 8) (by omega) (by omega) (by omega) dX10_rolls_8 ?_
  refine G_aload_n (pc := 9) dX10_rolls_9 rfl ?_
  refine M_arr (pc := 10) (a := 1900120) hS fl_X10_66 rfl rfl dX10_rolls_10 ?_
  refine G_iload_n (pc := 13) dX10_rolls_13 rfl ?_
  refine M_ldv (pc := 14) (kk := 20) (j := b) (v := nI d) hd hS rfl rfl rfl (show b < 8 by omega) dX10_rolls_14 ?_
  refine K_Sn1r (pc := 15) (k' := (0, 0)) mok_X10_right lk_X10_113 rfl (aok0 rfl) dX10_rolls_15 (C_right d8 _) rfl ?_
  refine G_iadd (pc := 18) dX10_rolls_18 ?_
  rw [shA]
  refine G_istore_n (pc := 19) dX10_rolls_19 (by decide) ?_
  refine G_aload_n (pc := 20) dX10_rolls_20 rfl ?_
  refine M_arr (pc := 21) (a := 1900119) hS fl_X10_63 rfl rfl dX10_rolls_21 ?_
  refine G_iload_n (pc := 24) dX10_rolls_24 rfl ?_
  refine M_ldv (pc := 25) (kk := 19) (j := b) (v := nI c) hc hS rfl rfl rfl (show b < 8 by omega) dX10_rolls_25 ?_
  refine G_bipush (pc := 26) (v := nI 16) dX10_rolls_26 (by first | rfl | decide) ?_
  refine G_idivN (pc := 28) (by omega) (by omega) (by omega) dX10_rolls_28 ?_
  refine G_aload_n (pc := 29) dX10_rolls_29 rfl ?_
  refine M_arr (pc := 30) (a := 1900120) hS fl_X10_66 rfl rfl dX10_rolls_30 ?_
  refine G_iload_n (pc := 33) dX10_rolls_33 rfl ?_
  refine M_ldv (pc := 34) (kk := 20) (j := b) (v := nI d) hd hS rfl rfl rfl (show b < 8 by omega) dX10_rolls_34 ?_
  refine K_Sn1r (pc := 35) (k' := (0, 0)) mok_X10_down lk_X10_116 rfl (aok0 rfl) dX10_rolls_35 (C_down d8 _) rfl ?_
  refine G_iadd (pc := 38) dX10_rolls_38 ?_
  rw [shA]
  refine G_istore_n (pc := 39) dX10_rolls_39 (by decide) ?_
  refine G_iload_n (pc := 40) dX10_rolls_40 rfl ?_
  refine G_iconst (pc := 41) (v := nI 0) dX10_rolls_41 (by first | rfl | decide) ?_
  refine G_bipush (pc := 42) (v := nI 15) dX10_rolls_42 (by first | rfl | decide) ?_
  refine K_Sn3r (pc := 44) (k' := (0, 0)) mok_X10_isIn lk_X10_75 rfl (aok0 rfl) dX10_rolls_44 (C_isInS (by have := ex_le d; omega) (by omega) _) rfl ?_
  refine G_if_neB (pc := 47) (tgt := 54) dX10_rolls_47 (by decide) (fun c47 => ?_) (fun c47 => ?_)
  · skip
    refine G_iconst (pc := 54) (v := nI 0) dX10_rolls_54 (by first | rfl | decide) ?_
    refine G_istore (pc := 55) dX10_rolls_55 (by decide) ?_
    refine G_iload_n (pc := 57) dX10_rolls_57 rfl ?_
    refine G_iconst (pc := 58) (v := nI 0) dX10_rolls_58 (by first | rfl | decide) ?_
    refine G_bipush (pc := 59) (v := nI 7) dX10_rolls_59 (by first | rfl | decide) ?_
    refine K_Sn3r (pc := 61) (k' := (0, 0)) mok_X10_isIn lk_X10_75 rfl (aok0 rfl) dX10_rolls_61 (C_isInS (by have := ey_le d; omega) (by omega) _) rfl ?_
    refine G_if_neB (pc := 64) (tgt := 71) dX10_rolls_64 (by decide) (fun c64 => ?_) (fun c64 => ?_)
    · skip
      refine G_iconst (pc := 71) (v := nI 0) dX10_rolls_71 (by first | rfl | decide) ?_
      refine G_istore (pc := 72) dX10_rolls_72 (by decide) ?_
      refine G_iload (pc := 74) dX10_rolls_74 rfl ?_
      refine G_if_neN (pc := 76) (tgt := 84) (by omega) dX10_rolls_76 (by decide) (fun h => absurd h (by decide)) (fun _ => ?_)
      refine G_iload (pc := 79) dX10_rolls_79 rfl ?_
      refine G_if_eqN (pc := 81) (tgt := 159) (by omega) dX10_rolls_81 (by decide) (fun _ => ?_) (fun h => absurd h (by decide))
      refine G_aload_n (pc := 159) dX10_rolls_159 rfl ?_
      refine G_bipush (pc := 160) (v := nI 16) dX10_rolls_160 (by first | rfl | decide) ?_
      refine G_iload_n (pc := 162) dX10_rolls_162 rfl ?_
      refine G_imul (pc := 163) dX10_rolls_163 ?_
      refine G_iload_n (pc := 164) dX10_rolls_164 rfl ?_
      refine G_iadd (pc := 165) dX10_rolls_165 ?_
      rw [nxI hx.1 hx.2]
      refine K_Vn1r (pc := 166) (k' := (0, 0)) mok_X10_inCell lk_X10_119 hS.1 rfl rfl rfl (aok0 rfl) dX10_rolls_166 (C_inCell hS _ _) rfl ?_
      rw [ho]
      refine G_istore (pc := 169) dX10_rolls_169 (by decide) ?_
      refine G_iload (pc := 171) dX10_rolls_171 rfl ?_
      refine G_if_ltN (pc := 173) (tgt := 259) (by omega) dX10_rolls_173 (by decide) (fun c173 => ?_) (fun c173 => ?_)
      · omega
      · skip
        refine G_aload_n (pc := 176) dX10_rolls_176 rfl ?_
        refine M_arr (pc := 177) (a := 1900121) hS fl_X10_69 rfl rfl dX10_rolls_177 ?_
        refine G_iload_n (pc := 180) dX10_rolls_180 rfl ?_
        refine M_ldv (pc := 181) (kk := 21) (j := b) (v := F 121 b) rfl hS rfl rfl rfl (show b < 8 by omega) dX10_rolls_181 ?_
        refine G_iconst (pc := 182) (v := nI 1) dX10_rolls_182 (by first | rfl | decide) ?_
        refine G_iadd (pc := 183) dX10_rolls_183 ?_
        refine G_iconst (pc := 184) (v := nI 2) dX10_rolls_184 (by first | rfl | decide) ?_
        refine G_idiv (pc := 185) dX10_rolls_185 (by decide) ?_
        refine G_istore (pc := 186) dX10_rolls_186 (by decide) ?_
        refine G_aload_n (pc := 188) dX10_rolls_188 rfl ?_
        refine M_arr (pc := 189) (a := 1900121) hS fl_X10_69 rfl rfl dX10_rolls_189 ?_
        refine G_iload_n (pc := 192) dX10_rolls_192 rfl ?_
        refine G_dup2 (pc := 193) dX10_rolls_193 rfl rfl ?_
        refine M_ldv (pc := 194) (kk := 21) (j := b) (v := F 121 b) rfl hS rfl rfl rfl (show b < 8 by omega) dX10_rolls_194 ?_
        refine G_iload (pc := 195) dX10_rolls_195 rfl ?_
        refine G_isub (pc := 197) dX10_rolls_197 ?_
        refine M_st (pc := 198) (kk := 21) (j := b) hS rfl rfl rfl (show b < 8 by omega) dX10_rolls_198 ?_
        refine G_aload_n (pc := 199) dX10_rolls_199 rfl ?_
        refine M_arr (pc := 200) (a := 1900121) hS fl_X10_69 rfl rfl dX10_rolls_200 ?_
        refine G_iload (pc := 203) dX10_rolls_203 rfl ?_
        refine G_dup2 (pc := 205) dX10_rolls_205 rfl rfl ?_
        refine M_ldv (pc := 206) (kk := 21) (j := o) (v := u2 F 121 b (F 121 b - (F 121 b + nI 1) / nI 2) 121 o) rfl hS rfl rfl rfl (show o < 8 by omega) dX10_rolls_206 ?_
        refine G_iload (pc := 207) dX10_rolls_207 rfl ?_
        refine G_iadd (pc := 209) dX10_rolls_209 ?_
        refine M_st (pc := 210) (kk := 21) (j := o) hS rfl rfl rfl (show o < 8 by omega) dX10_rolls_210 ?_
        refine G_aload_n (pc := 211) dX10_rolls_211 rfl ?_
        refine M_arr (pc := 212) (a := 1900120) hS fl_X10_66 rfl rfl dX10_rolls_212 ?_
        refine G_iload (pc := 215) dX10_rolls_215 rfl ?_
        refine G_aload_n (pc := 217) dX10_rolls_217 rfl ?_
        refine M_arr (pc := 218) (a := 1900120) hS fl_X10_66 rfl rfl dX10_rolls_218 ?_
        refine G_iload_n (pc := 221) dX10_rolls_221 rfl ?_
        refine M_ldv (pc := 222) (kk := 20) (j := b) (v := nI d) hd hS rfl rfl rfl (show b < 8 by omega) dX10_rolls_222 ?_
        refine M_st (pc := 223) (kk := 20) (j := o) hS rfl rfl rfl (show o < 8 by omega) dX10_rolls_223 ?_
        refine G_aload_n (pc := 224) dX10_rolls_224 rfl ?_
        refine G_dup (pc := 225) dX10_rolls_225 rfl ?_
        refine M_getv (pc := 226) (kk := 23) (v := F 23 0) rfl hS fl_X10_122 rfl dX10_rolls_226 ?_
        refine G_iconst (pc := 229) (v := nI 1) dX10_rolls_229 (by first | rfl | decide) ?_
        refine G_iadd (pc := 230) dX10_rolls_230 ?_
        refine M_put (pc := 231) hS fl_X10_122 fw_9_23 rfl dX10_rolls_231 ?_
        refine G_aload_n (pc := 234) dX10_rolls_234 rfl ?_
        refine G_iload_n (pc := 235) dX10_rolls_235 rfl ?_
        refine G_if_neN (pc := 236) (tgt := 251) (by omega) dX10_rolls_236 (by decide) (fun c236 => ?_) (fun c236 => ?_)
        · skip
          refine G_aload_n (pc := 251) dX10_rolls_251 rfl ?_
          refine M_getv (pc := 252) (kk := 22) (v := F 22 0) rfl hS fl_X10_125 rfl dX10_rolls_252 ?_
          refine M_put (pc := 255) hS fl_X10_125 fw_9_22 rfl dX10_rolls_255 ?_
          refine G_vret (pc := 258) VZ.n dX10_rolls_258 rfl ⟨by decide, by decide⟩ ?_
          refine ⟨rfl, ?_⟩
          first
            | exact congrArg (fun v => wM Y (u2 _ 22 0 v)) (if_pos ⟨c236, c243⟩).symm
            | exact congrArg (fun v => wM Y (u2 _ 22 0 v)) (if_neg (fun g => c236 g.1)).symm
            | exact congrArg (fun v => wM Y (u2 _ 22 0 v)) (if_neg (fun g => g.2 c243)).symm
        · skip
          refine G_aload_n (pc := 239) dX10_rolls_239 rfl ?_
          refine M_getv (pc := 240) (kk := 22) (v := F 22 0) rfl hS fl_X10_125 rfl dX10_rolls_240 ?_
          refine G_if_ge (pc := 243) (tgt := 251) dX10_rolls_243 (by decide) (fun c243 => ?_) (fun c243 => ?_)
          · skip
            refine G_aload_n (pc := 251) dX10_rolls_251 rfl ?_
            refine M_getv (pc := 252) (kk := 22) (v := F 22 0) rfl hS fl_X10_125 rfl dX10_rolls_252 ?_
            refine M_put (pc := 255) hS fl_X10_125 fw_9_22 rfl dX10_rolls_255 ?_
            refine G_vret (pc := 258) VZ.n dX10_rolls_258 rfl ⟨by decide, by decide⟩ ?_
            refine ⟨rfl, ?_⟩
            first
              | exact congrArg (fun v => wM Y (u2 _ 22 0 v)) (if_pos ⟨c236, c243⟩).symm
              | exact congrArg (fun v => wM Y (u2 _ 22 0 v)) (if_neg (fun g => c236 g.1)).symm
              | exact congrArg (fun v => wM Y (u2 _ 22 0 v)) (if_neg (fun g => g.2 c243)).symm
          · skip
            refine G_iload (pc := 246) dX10_rolls_246 rfl ?_
            refine G_goto (pc := 248) (tgt := 255) dX10_rolls_248 (by decide) ?_
            refine M_put (pc := 255) hS fl_X10_125 fw_9_22 rfl dX10_rolls_255 ?_
            refine G_vret (pc := 258) VZ.n dX10_rolls_258 rfl ⟨by decide, by decide⟩ ?_
            refine ⟨rfl, ?_⟩
            first
              | exact congrArg (fun v => wM Y (u2 _ 22 0 v)) (if_pos ⟨c236, c243⟩).symm
              | exact congrArg (fun v => wM Y (u2 _ 22 0 v)) (if_neg (fun g => c236 g.1)).symm
              | exact congrArg (fun v => wM Y (u2 _ 22 0 v)) (if_neg (fun g => g.2 c243)).symm
    · exact absurd hx.2 c64
  · exact absurd hx.1 c47
theorem C_rollsMove {Γ : GTy} {Y : HS} (hS : MS Y) (F : FT) {b c d : Nat} (hb : b < 8) (hc : F 119 b = nI c) (c1 : c < 128) (hd : F 120 b = nI d) (d8 : d < 8) (hx : cin c d ∧ rin c d) (ho : mIn F (nI (nx c d)) = -1) : Tn Γ M_X10_rolls [.ref 900000, .int (nI b)] (wM Y F) (rt none (wM Y (mMove F b (nx c d)))) := by
  refine Tn_of' rfl rfl rfl ?_
  show G Γ M_X10_rolls (rm M_X10_rolls) (Vn Γ M_X10_rolls (rt none (wM Y (mMove F b (nx c d))))) (0, 0) 0 [some (.ref 900000), some (.int (nI b)), none, none, none, none, none, none] [] (wM Y F)
  refine G_aload_n (pc := 0) dX10_rolls_0 rfl ?_
  refine M_arr (pc := 1) (a := 1900119) hS fl_X10_63 rfl rfl dX10_rolls_1 ?_
  refine G_iload_n (pc := 4) dX10_rolls_4 rfl ?_
  refine M_ldv (pc := 5) (kk := 19) (j := b) (v := nI c) hc hS rfl rfl rfl (show b < 8 by omega) dX10_rolls_5 ?_
  refine G_bipush (pc := 6) (v := nI 16) dX10_rolls_6 (by first | rfl | decide) ?_
  refine G_iremN (pc := 8) (by omega) (by omega) (by omega) dX10_rolls_8 ?_
  refine G_aload_n (pc := 9) dX10_rolls_9 rfl ?_
  refine M_arr (pc := 10) (a := 1900120) hS fl_X10_66 rfl rfl dX10_rolls_10 ?_
  refine G_iload_n (pc := 13) dX10_rolls_13 rfl ?_
  refine M_ldv (pc := 14) (kk := 20) (j := b) (v := nI d) hd hS rfl rfl rfl (show b < 8 by omega) dX10_rolls_14 ?_
  refine K_Sn1r (pc := 15) (k' := (0, 0)) mok_X10_right lk_X10_113 rfl (aok0 rfl) dX10_rolls_15 (C_right d8 _) rfl ?_
  refine G_iadd (pc := 18) dX10_rolls_18 ?_
  rw [shA]
  refine G_istore_n (pc := 19) dX10_rolls_19 (by decide) ?_
  refine G_aload_n (pc := 20) dX10_rolls_20 rfl ?_
  refine M_arr (pc := 21) (a := 1900119) hS fl_X10_63 rfl rfl dX10_rolls_21 ?_
  refine G_iload_n (pc := 24) dX10_rolls_24 rfl ?_
  refine M_ldv (pc := 25) (kk := 19) (j := b) (v := nI c) hc hS rfl rfl rfl (show b < 8 by omega) dX10_rolls_25 ?_
  refine G_bipush (pc := 26) (v := nI 16) dX10_rolls_26 (by first | rfl | decide) ?_
  refine G_idivN (pc := 28) (by omega) (by omega) (by omega) dX10_rolls_28 ?_
  refine G_aload_n (pc := 29) dX10_rolls_29 rfl ?_
  refine M_arr (pc := 30) (a := 1900120) hS fl_X10_66 rfl rfl dX10_rolls_30 ?_
  refine G_iload_n (pc := 33) dX10_rolls_33 rfl ?_
  refine M_ldv (pc := 34) (kk := 20) (j := b) (v := nI d) hd hS rfl rfl rfl (show b < 8 by omega) dX10_rolls_34 ?_
  refine K_Sn1r (pc := 35) (k' := (0, 0)) mok_X10_down lk_X10_116 rfl (aok0 rfl) dX10_rolls_35 (C_down d8 _) rfl ?_
  refine G_iadd (pc := 38) dX10_rolls_38 ?_
  rw [shA]
  refine G_istore_n (pc := 39) dX10_rolls_39 (by decide) ?_
  refine G_iload_n (pc := 40) dX10_rolls_40 rfl ?_
  refine G_iconst (pc := 41) (v := nI 0) dX10_rolls_41 (by first | rfl | decide) ?_
  refine G_bipush (pc := 42) (v := nI 15) dX10_rolls_42 (by first | rfl | decide) ?_
  refine K_Sn3r (pc := 44) (k' := (0, 0)) mok_X10_isIn lk_X10_75 rfl (aok0 rfl) dX10_rolls_44 (C_isInS (by have := ex_le d; omega) (by omega) _) rfl ?_
  refine G_if_neB (pc := 47) (tgt := 54) dX10_rolls_47 (by decide) (fun c47 => ?_) (fun c47 => ?_)
  · skip
    refine G_iconst (pc := 54) (v := nI 0) dX10_rolls_54 (by first | rfl | decide) ?_
    refine G_istore (pc := 55) dX10_rolls_55 (by decide) ?_
    refine G_iload_n (pc := 57) dX10_rolls_57 rfl ?_
    refine G_iconst (pc := 58) (v := nI 0) dX10_rolls_58 (by first | rfl | decide) ?_
    refine G_bipush (pc := 59) (v := nI 7) dX10_rolls_59 (by first | rfl | decide) ?_
    refine K_Sn3r (pc := 61) (k' := (0, 0)) mok_X10_isIn lk_X10_75 rfl (aok0 rfl) dX10_rolls_61 (C_isInS (by have := ey_le d; omega) (by omega) _) rfl ?_
    refine G_if_neB (pc := 64) (tgt := 71) dX10_rolls_64 (by decide) (fun c64 => ?_) (fun c64 => ?_)
    · skip
      refine G_iconst (pc := 71) (v := nI 0) dX10_rolls_71 (by first | rfl | decide) ?_
      refine G_istore (pc := 72) dX10_rolls_72 (by decide) ?_
      refine G_iload (pc := 74) dX10_rolls_74 rfl ?_
      refine G_if_neN (pc := 76) (tgt := 84) (by omega) dX10_rolls_76 (by decide) (fun h => absurd h (by decide)) (fun _ => ?_)
      refine G_iload (pc := 79) dX10_rolls_79 rfl ?_
      refine G_if_eqN (pc := 81) (tgt := 159) (by omega) dX10_rolls_81 (by decide) (fun _ => ?_) (fun h => absurd h (by decide))
      refine G_aload_n (pc := 159) dX10_rolls_159 rfl ?_
      refine G_bipush (pc := 160) (v := nI 16) dX10_rolls_160 (by first | rfl | decide) ?_
      refine G_iload_n (pc := 162) dX10_rolls_162 rfl ?_
      refine G_imul (pc := 163) dX10_rolls_163 ?_
      refine G_iload_n (pc := 164) dX10_rolls_164 rfl ?_
      refine G_iadd (pc := 165) dX10_rolls_165 ?_
      rw [nxI hx.1 hx.2]
      refine K_Vn1r (pc := 166) (k' := (0, 0)) mok_X10_inCell lk_X10_119 hS.1 rfl rfl rfl (aok0 rfl) dX10_rolls_166 (C_inCell hS _ _) rfl ?_
      rw [ho]
      refine G_istore (pc := 169) dX10_rolls_169 (by decide) ?_
      refine G_iload (pc := 171) dX10_rolls_171 rfl ?_
      refine G_if_lt (pc := 173) (tgt := 259) dX10_rolls_173 (by decide) (fun _ => ?_) (fun h => absurd h (by decide))
      refine G_aload_n (pc := 259) dX10_rolls_259 rfl ?_
      refine M_arr (pc := 260) (a := 1900119) hS fl_X10_63 rfl rfl dX10_rolls_260 ?_
      refine G_iload_n (pc := 263) dX10_rolls_263 rfl ?_
      refine G_bipush (pc := 264) (v := nI 16) dX10_rolls_264 (by first | rfl | decide) ?_
      refine G_iload_n (pc := 266) dX10_rolls_266 rfl ?_
      refine G_imul (pc := 267) dX10_rolls_267 ?_
      refine G_iload_n (pc := 268) dX10_rolls_268 rfl ?_
      refine G_iadd (pc := 269) dX10_rolls_269 ?_
      rw [nxI hx.1 hx.2]
      refine M_st (pc := 270) (kk := 19) (j := b) hS rfl rfl rfl (show b < 8 by omega) dX10_rolls_270 ?_
      refine G_aload_n (pc := 271) dX10_rolls_271 rfl ?_
      refine M_arr (pc := 272) (a := 1900121) hS fl_X10_69 rfl rfl dX10_rolls_272 ?_
      refine G_iload_n (pc := 275) dX10_rolls_275 rfl ?_
      refine G_dup2 (pc := 276) dX10_rolls_276 rfl rfl ?_
      refine M_ldv (pc := 277) (kk := 21) (j := b) (v := F 121 b) rfl hS rfl rfl rfl (show b < 8 by omega) dX10_rolls_277 ?_
      refine G_iconst (pc := 278) (v := nI 1) dX10_rolls_278 (by first | rfl | decide) ?_
      refine G_isub (pc := 279) dX10_rolls_279 ?_
      refine M_st (pc := 280) (kk := 21) (j := b) hS rfl rfl rfl (show b < 8 by omega) dX10_rolls_280 ?_
      refine G_aload_n (pc := 281) dX10_rolls_281 rfl ?_
      refine M_arr (pc := 282) (a := 1900119) hS fl_X10_63 rfl rfl dX10_rolls_282 ?_
      refine G_iload_n (pc := 285) dX10_rolls_285 rfl ?_
      refine M_ldv (pc := 286) (kk := 19) (j := b) (v := nI (nx c d)) (show u2 F 119 b (nI (nx c d)) 119 b = _ from if_pos ⟨rfl, rfl⟩) hS rfl rfl rfl (show b < 8 by omega) dX10_rolls_286 ?_
      refine K_Sn1r (pc := 287) (k' := (0, 0)) mok_X10_isPocket lk_X10_128 rfl (aok0 rfl) dX10_rolls_287 (C_pocketM (nx_lt hx.1 hx.2) _) rfl ?_
      refine G_if_eqB (pc := 290) (tgt := 312) dX10_rolls_290 (by decide) (fun c290 => ?_) (fun c290 => ?_)
      · skip
        refine G_vret (pc := 312) VZ.n dX10_rolls_312 rfl ⟨by decide, by decide⟩ ?_
        refine ⟨rfl, ?_⟩
        unfold mMove
        first | exact congrArg (wM Y) (if_pos c290).symm | exact congrArg (wM Y) (if_neg c290).symm
      · skip
        refine G_aload_n (pc := 293) dX10_rolls_293 rfl ?_
        refine M_arr (pc := 294) (a := 1900119) hS fl_X10_63 rfl rfl dX10_rolls_294 ?_
        refine G_iload_n (pc := 297) dX10_rolls_297 rfl ?_
        refine G_iconst (pc := 298) (v := -1) dX10_rolls_298 (by first | rfl | decide) ?_
        refine M_st (pc := 299) (kk := 19) (j := b) hS rfl rfl rfl (show b < 8 by omega) dX10_rolls_299 ?_
        refine G_aload_n (pc := 300) dX10_rolls_300 rfl ?_
        refine G_dup (pc := 301) dX10_rolls_301 rfl ?_
        refine M_getv (pc := 302) (kk := 24) (v := F 24 0) rfl hS fl_X10_131 rfl dX10_rolls_302 ?_
        refine G_iconst (pc := 305) (v := nI 1) dX10_rolls_305 (by first | rfl | decide) ?_
        refine G_iload_n (pc := 306) dX10_rolls_306 rfl ?_
        refine G_ishl (pc := 307) dX10_rolls_307 ?_
        refine G_ior (pc := 308) dX10_rolls_308 ?_
        refine M_put (pc := 309) hS fl_X10_131 fw_9_24 rfl dX10_rolls_309 ?_
        refine G_vret (pc := 312) VZ.n dX10_rolls_312 rfl ⟨by decide, by decide⟩ ?_
        refine ⟨rfl, ?_⟩
        unfold mMove
        first | exact congrArg (wM Y) (if_pos c290).symm | exact congrArg (wM Y) (if_neg c290).symm
    · exact absurd hx.2 c64
  · exact absurd hx.1 c47
theorem nI_nm1 {j : Nat} (h : j < 2 ^ 31) : ¬ nI j = -1 := fun e => absurd (show (0 : Int32) ≤ -1 by rw [← e]; exact nI_pos' h) (by decide)
def mRolls (F : FT) (b c d : Nat) : FT := if cin c d ∧ rin c d then (if mIn F (nI (nx c d)) = -1 then mMove F b (nx c d) else mMeet F b (mIn F (nI (nx c d))).toNatClampNeg d) else mOut F b c d
theorem C_rolls {Γ : GTy} {Y : HS} (hS : MS Y) (F : FT) {b c d : Nat} (hb : b < 8) (hc : F 119 b = nI c) (c1 : c < 128) (hd : F 120 b = nI d) (d8 : d < 8) : Tn Γ M_X10_rolls [.ref 900000, .int (nI b)] (wM Y F) (rt none (wM Y (mRolls F b c d))) := by
  unfold mRolls
  by_cases hx : cin c d ∧ rin c d
  · rw [if_pos hx]
    rcases lastW_spec (fun k => F 119 k = nI (nx c d)) 8 with ⟨h1, -⟩ | ⟨j, h1, -, h3, -⟩
    · rw [if_pos h1]
      exact C_rollsMove hS F hb hc c1 hd d8 hx h1
    · have h3' : mIn F (nI (nx c d)) = nI j := h3
      rw [if_neg (by rw [h3']; exact nI_nm1 (by omega)), h3', nI_clamp (by omega)]
      exact C_rollsMeet hS F hb hc c1 hd d8 hx h3 h1
  · rw [if_neg hx]
    exact C_rollsOut hS F hb hc c1 hd d8 hx
def anyB (p : Nat → Prop) [DecidablePred p] : Nat → Bool
  | 0 => false
  | n + 1 => anyB p n || decide (p n)
theorem any_t {p : Nat → Prop} [DecidablePred p] {n : Nat} (h : p n) : b2 (anyB p (n + 1) = true) = b2 (anyB p n = true) ||| nI 1 := by
  rw [b2_t (show anyB p (n + 1) = true by simp [anyB, h])]
  rcases b2_or (anyB p n = true) with e | e <;> rw [e] <;> decide
theorem any_f {p : Nat → Prop} [DecidablePred p] {n : Nat} (h : ¬ p n) : b2 (anyB p (n + 1) = true) = b2 (anyB p n = true) ||| nI 0 := by
  rw [b2_eq (show (anyB p (n + 1) = true) ↔ (anyB p n = true) by simp [anyB, h])]
  rcases b2_or (anyB p n = true) with e | e <;> rw [e] <;> decide
theorem anyB_congr {p q : Nat → Prop} [DecidablePred p] [DecidablePred q] : ∀ {n : Nat}, (∀ j, j < n → (p j ↔ q j)) → anyB p n = anyB q n
  | 0, _ => rfl
  | n + 1, h => by
    show (anyB p n || decide (p n)) = (anyB q n || decide (q n))
    rw [anyB_congr (fun j hj => h j (Nat.lt_succ_of_lt hj))]
    simp only [h n (Nat.lt_succ_self n)]
abbrev isR (F : FT) (k : Nat) : Prop := ¬ F 119 k < 0 ∧ ¬ F 121 k ≤ 0
theorem C_isRolling {Γ : GTy} {Y : HS} (hS : MS Y) (F : FT)  : Tn Γ M_X10_isRolling [.ref 900000] (wM Y F) (rt (some (.int (b2 (anyB (isR F) 8 = true)))) (wM Y F)) := by
  refine Tn_of' rfl rfl rfl ?_
  show G Γ M_X10_isRolling (rm M_X10_isRolling) (Vn Γ M_X10_isRolling (rt (some (.int (b2 (anyB (isR F) 8 = true)))) (wM Y F))) (0, 0) 0 [some (.ref 900000), none, none] [] (wM Y F)
  have loop : ∀ (n9 j : Nat), j + n9 = 8 → G Γ M_X10_isRolling (rm M_X10_isRolling) (Vn Γ M_X10_isRolling (rt (some (.int (b2 (anyB (isR F) 8 = true)))) (wM Y F))) (0, 0) 4 [some (.ref 900000), some (.int (b2 (anyB (isR F) j = true))), some (.int (nI j))] [] (wM Y F) := by
    intro n9
    induction n9 with
    | zero =>
      intro j hj
      obtain rfl : j = 8 := by omega
      refine G_iload_n (pc := 4) dX10_isRolling_4 rfl ?_
      refine G_bipush (pc := 5) (v := nI 8) dX10_isRolling_5 (by first | rfl | decide) ?_
      refine G_icmp_geN (pc := 7) (tgt := 42) (by omega) (by omega) dX10_isRolling_7 (by decide) (fun c7 => ?_) (fun c7 => ?_)
      · skip
        refine G_iload_n (pc := 42) dX10_isRolling_42 rfl ?_
        refine G_zret (pc := 43) VZ.n dX10_isRolling_43 rfl (by first | exact Or.inl rfl | exact Or.inr rfl | exact b2_or _ | assumption) ⟨by decide, by decide⟩ ?_
        exact ⟨rfl, rfl⟩
      · omega
    | succ n9 ih =>
      intro j hj
      have hj9 : j < 8 := by omega
      refine G_iload_n (pc := 4) dX10_isRolling_4 rfl ?_
      refine G_bipush (pc := 5) (v := nI 8) dX10_isRolling_5 (by first | rfl | decide) ?_
      refine G_icmp_geN (pc := 7) (tgt := 42) (by omega) (by omega) dX10_isRolling_7 (by decide) (fun c7 => ?_) (fun c7 => ?_)
      · omega
      · skip
        refine G_iload_n (pc := 10) dX10_isRolling_10 rfl ?_
        refine G_aload_n (pc := 11) dX10_isRolling_11 rfl ?_
        refine M_arr (pc := 12) (a := 1900119) hS fl_X10_63 rfl rfl dX10_isRolling_12 ?_
        refine G_iload_n (pc := 15) dX10_isRolling_15 rfl ?_
        refine M_ldv (pc := 16) (kk := 19) (j := j) (v := F 119 j) rfl hS rfl rfl rfl hj9 dX10_isRolling_16 ?_
        refine G_if_lt (pc := 17) (tgt := 33) dX10_isRolling_17 (by decide) (fun c17 => ?_) (fun c17 => ?_)
        · skip
          refine G_iconst (pc := 33) (v := nI 0) dX10_isRolling_33 (by first | rfl | decide) ?_
          refine G_ior (pc := 34) dX10_isRolling_34 ?_
          refine G_istore_n (pc := 35) dX10_isRolling_35 (by decide) ?_
          refine G_iincN (pc := 36) dX10_isRolling_36 rfl (by decide) ?_
          refine G_goto (pc := 39) (tgt := 4) dX10_isRolling_39 (by decide) ?_
          have h9 := ih (j + 1) (by omega)
          first
            | (rw [any_f (p := isR F) (fun g => g.1 c17)] at h9; exact h9)
            | (rw [any_f (p := isR F) (fun g => g.2 c26)] at h9; exact h9)
            | (rw [any_t (p := isR F) ⟨c17, c26⟩] at h9; exact h9)
        · skip
          refine G_aload_n (pc := 20) dX10_isRolling_20 rfl ?_
          refine M_arr (pc := 21) (a := 1900121) hS fl_X10_69 rfl rfl dX10_isRolling_21 ?_
          refine G_iload_n (pc := 24) dX10_isRolling_24 rfl ?_
          refine M_ldv (pc := 25) (kk := 21) (j := j) (v := F 121 j) rfl hS rfl rfl rfl hj9 dX10_isRolling_25 ?_
          refine G_if_le (pc := 26) (tgt := 33) dX10_isRolling_26 (by decide) (fun c26 => ?_) (fun c26 => ?_)
          · skip
            refine G_iconst (pc := 33) (v := nI 0) dX10_isRolling_33 (by first | rfl | decide) ?_
            refine G_ior (pc := 34) dX10_isRolling_34 ?_
            refine G_istore_n (pc := 35) dX10_isRolling_35 (by decide) ?_
            refine G_iincN (pc := 36) dX10_isRolling_36 rfl (by decide) ?_
            refine G_goto (pc := 39) (tgt := 4) dX10_isRolling_39 (by decide) ?_
            have h9 := ih (j + 1) (by omega)
            first
              | (rw [any_f (p := isR F) (fun g => g.1 c17)] at h9; exact h9)
              | (rw [any_f (p := isR F) (fun g => g.2 c26)] at h9; exact h9)
              | (rw [any_t (p := isR F) ⟨c17, c26⟩] at h9; exact h9)
          · skip
            refine G_iconst (pc := 29) (v := nI 1) dX10_isRolling_29 (by first | rfl | decide) ?_
            refine G_goto (pc := 30) (tgt := 34) dX10_isRolling_30 (by decide) ?_
            refine G_ior (pc := 34) dX10_isRolling_34 ?_
            refine G_istore_n (pc := 35) dX10_isRolling_35 (by decide) ?_
            refine G_iincN (pc := 36) dX10_isRolling_36 rfl (by decide) ?_
            refine G_goto (pc := 39) (tgt := 4) dX10_isRolling_39 (by decide) ?_
            have h9 := ih (j + 1) (by omega)
            first
              | (rw [any_f (p := isR F) (fun g => g.1 c17)] at h9; exact h9)
              | (rw [any_f (p := isR F) (fun g => g.2 c26)] at h9; exact h9)
              | (rw [any_t (p := isR F) ⟨c17, c26⟩] at h9; exact h9)
  refine G_iconst (pc := 0) (v := nI 0) dX10_isRolling_0 (by first | rfl | decide) ?_
  refine G_istore_n (pc := 1) dX10_isRolling_1 (by decide) ?_
  refine G_iconst (pc := 2) (v := nI 0) dX10_isRolling_2 (by first | rfl | decide) ?_
  refine G_istore_n (pc := 3) dX10_isRolling_3 (by decide) ?_
  exact loop 8 0 rfl
