-- ===== the class: a roll's small methods =====
theorem u2_id {F : FT} {s j : Nat} {v : Int32} (h : F s j = v) : u2 F s j v = F := by
  funext s' j'
  unfold u2
  split
  · next g => rw [g.1, g.2, h]
  · rfl
theorem wB_Ax {c q b : Nat} {Y : HS} {A : FT} {a i : Nat} (h : a < b + 119 ∨ b + 123 < a) : xA (wB c q b Y A) a i = xA Y a i := if_neg (fun g => by omega)
theorem C_putN {Γ : GTy} {Y : HS} (hS : RS 0 10 1000010 Y) (A : FT) {x : Nat} (hx : x < 128) (m : Int32) : Tn Γ M_X0_put [.ref 10, .int (nI x), .int m] (wB 0 10 1000010 Y A) (rt none (wB 0 10 1000010 Y (u2 A 123 x m))) := by
  refine Tn_of' rfl rfl rfl ?_
  show G Γ M_X0_put (rm M_X0_put) (Vn Γ M_X0_put (rt none (wB 0 10 1000010 Y (u2 A 123 x m)))) (0, 0) 0 [some (.ref 10), some (.int (nI x)), some (.int m)] [] (wB 0 10 1000010 Y A)
  refine G_iload_n (pc := 0) dX0_put_0 rfl ?_
  refine G_if_ltN (pc := 1) (tgt := 20) (by omega) dX0_put_1 (by decide) (fun c1 => ?_) (fun c1 => ?_)
  · omega
  · skip
    refine G_iload_n (pc := 4) dX0_put_4 rfl ?_
    refine G_aload_n (pc := 5) dX0_put_5 rfl ?_
    refine B_arr (pc := 6) (a := 1000133) hS fl_X0_9 rfl rfl dX0_put_6 ?_
    refine B_len (pc := 9) (kk := 6) (n := 128) rfl hS rfl rfl dX0_put_9 ?_
    refine G_icmp_geN (pc := 10) (tgt := 20) (by omega) (by omega) dX0_put_10 (by decide) (fun c10 => ?_) (fun c10 => ?_)
    · omega
    · skip
      refine G_aload_n (pc := 13) dX0_put_13 rfl ?_
      refine B_arr (pc := 14) (a := 1000133) hS fl_X0_9 rfl rfl dX0_put_14 ?_
      refine G_iload_n (pc := 17) dX0_put_17 rfl ?_
      refine G_iload_n (pc := 18) dX0_put_18 rfl ?_
      refine B_st (pc := 19) (kk := 6) (j := x) hS rfl rfl rfl (show x < 128 by omega) dX0_put_19 ?_
      refine G_vret (pc := 20) VZ.n dX0_put_20 rfl ⟨by decide, by decide⟩ ?_
      exact ⟨rfl, rfl⟩
theorem C_putX {Γ : GTy} {Y : HS} (hS : RS 0 10 1000010 Y) (A : FT) (m : Int32) : Tn Γ M_X0_put [.ref 10, .int (-1), .int m] (wB 0 10 1000010 Y A) (rt none (wB 0 10 1000010 Y A)) := by
  refine Tn_of' rfl rfl rfl ?_
  show G Γ M_X0_put (rm M_X0_put) (Vn Γ M_X0_put (rt none (wB 0 10 1000010 Y A))) (0, 0) 0 [some (.ref 10), some (.int (-1)), some (.int m)] [] (wB 0 10 1000010 Y A)
  refine G_iload_n (pc := 0) dX0_put_0 rfl ?_
  refine G_if_lt (pc := 1) (tgt := 20) dX0_put_1 (by decide) (fun _ => ?_) (fun h => absurd h (by decide))
  refine G_vret (pc := 20) VZ.n dX0_put_20 rfl ⟨by decide, by decide⟩ ?_
  exact ⟨rfl, rfl⟩
theorem C_note0N {Γ : GTy} {Y : HS} (hS : RS 0 10 1000010 Y) (A : FT) {b x y : Nat} (hx : x < 128) (hy : y < 128) : Tn Γ M_X0_note [.ref 10, .int (nI b), .int (nI x), .int (nI y)] (wB 0 10 1000010 Y A) (rt none (wB 0 10 1000010 Y (u2 (u2 A 123 x (nI 0)) 123 y (nI (b + 1))))) := by
  refine Tn_of' rfl rfl rfl ?_
  show G Γ M_X0_note (rm M_X0_note) (Vn Γ M_X0_note (rt none (wB 0 10 1000010 Y (u2 (u2 A 123 x (nI 0)) 123 y (nI (b + 1)))))) (0, 0) 0 [some (.ref 10), some (.int (nI b)), some (.int (nI x)), some (.int (nI y))] [] (wB 0 10 1000010 Y A)
  refine G_aload_n (pc := 0) dX0_note_0 rfl ?_
  refine G_iload_n (pc := 1) dX0_note_1 rfl ?_
  refine G_iconst (pc := 2) (v := nI 0) dX0_note_2 (by first | rfl | decide) ?_
  refine K_Vn2v (pc := 3) (k' := (0, 0)) mok_X0_put lk_X0_18 hS.1 rfl rfl rfl (aok0 rfl) dX0_note_3 (C_putN hS _ hx _) rfl ?_
  refine G_aload_n (pc := 6) dX0_note_6 rfl ?_
  refine G_iload_n (pc := 7) dX0_note_7 rfl ?_
  refine G_iload_n (pc := 8) dX0_note_8 rfl ?_
  refine G_iconst (pc := 9) (v := nI 1) dX0_note_9 (by first | rfl | decide) ?_
  refine G_iaddN (pc := 10) dX0_note_10 ?_
  refine K_Vn2v (pc := 11) (k' := (0, 0)) mok_X0_put lk_X0_18 hS.1 rfl rfl rfl (aok0 rfl) dX0_note_11 (C_putN hS _ hy _) rfl ?_
  refine G_vret (pc := 14) VZ.n dX0_note_14 rfl ⟨by decide, by decide⟩ ?_
  exact ⟨rfl, rfl⟩
theorem C_note0X {Γ : GTy} {Y : HS} (hS : RS 0 10 1000010 Y) (A : FT) {b x : Nat} (hx : x < 128) : Tn Γ M_X0_note [.ref 10, .int (nI b), .int (nI x), .int (-1)] (wB 0 10 1000010 Y A) (rt none (wB 0 10 1000010 Y (u2 A 123 x (nI 0)))) := by
  refine Tn_of' rfl rfl rfl ?_
  show G Γ M_X0_note (rm M_X0_note) (Vn Γ M_X0_note (rt none (wB 0 10 1000010 Y (u2 A 123 x (nI 0))))) (0, 0) 0 [some (.ref 10), some (.int (nI b)), some (.int (nI x)), some (.int (-1))] [] (wB 0 10 1000010 Y A)
  refine G_aload_n (pc := 0) dX0_note_0 rfl ?_
  refine G_iload_n (pc := 1) dX0_note_1 rfl ?_
  refine G_iconst (pc := 2) (v := nI 0) dX0_note_2 (by first | rfl | decide) ?_
  refine K_Vn2v (pc := 3) (k' := (0, 0)) mok_X0_put lk_X0_18 hS.1 rfl rfl rfl (aok0 rfl) dX0_note_3 (C_putN hS _ hx _) rfl ?_
  refine G_aload_n (pc := 6) dX0_note_6 rfl ?_
  refine G_iload_n (pc := 7) dX0_note_7 rfl ?_
  refine G_iload_n (pc := 8) dX0_note_8 rfl ?_
  refine G_iconst (pc := 9) (v := nI 1) dX0_note_9 (by first | rfl | decide) ?_
  refine G_iaddN (pc := 10) dX0_note_10 ?_
  refine K_Vn2v (pc := 11) (k' := (0, 0)) mok_X0_put lk_X0_18 hS.1 rfl rfl rfl (aok0 rfl) dX0_note_11 (C_putX hS _ _) rfl ?_
  refine G_vret (pc := 14) VZ.n dX0_note_14 rfl ⟨by decide, by decide⟩ ?_
  exact ⟨rfl, rfl⟩
theorem C_note4 {Γ : GTy} {Y : HS} (hS : RS 4 400010 1400010 Y) (A : FT) (x y z : Int32) : Tn Γ M_X4_note [.ref 400010, .int x, .int y, .int z] (wB 4 400010 1400010 Y A) (rt none (wB 4 400010 1400010 Y A)) := by
  refine Tn_of' rfl rfl rfl ?_
  show G Γ M_X4_note (rm M_X4_note) (Vn Γ M_X4_note (rt none (wB 4 400010 1400010 Y A))) (0, 0) 0 [some (.ref 400010), some (.int x), some (.int y), some (.int z)] [] (wB 4 400010 1400010 Y A)
  refine G_vret (pc := 0) VZ.n dX4_note_0 rfl ⟨by decide, by decide⟩ ?_
  exact ⟨rfl, rfl⟩
theorem C_lay4 {Γ : GTy} {Y : HS} (hS : RS 4 400010 1400010 Y) (A : FT)  : Tn Γ M_X4_lay [.ref 400010] (wB 4 400010 1400010 Y A) (rt none (wB 4 400010 1400010 Y A)) := by
  refine Tn_of' rfl rfl rfl ?_
  show G Γ M_X4_lay (rm M_X4_lay) (Vn Γ M_X4_lay (rt none (wB 4 400010 1400010 Y A))) (0, 0) 0 [some (.ref 400010)] [] (wB 4 400010 1400010 Y A)
  refine G_vret (pc := 0) VZ.n dX4_lay_0 rfl ⟨by decide, by decide⟩ ?_
  exact ⟨rfl, rfl⟩
def clF (A : FT) (i : Nat) : FT := fun s j => if s = 123 ∧ j < i then nI 0 else A s j
theorem clF_0 (A : FT) : clF A 0 = A := by
  funext s j
  exact if_neg (fun h => by omega)
theorem clF_s (A : FT) (i : Nat) : u2 (clF A i) 123 i (nI 0) = clF A (i + 1) := by
  funext s j
  simp only [u2, clF]
  by_cases h : s = 123 ∧ j = i
  · rw [if_pos h, if_pos ⟨h.1, by omega⟩]
  · rw [if_neg h]
    by_cases g : s = 123 ∧ j < i
    · rw [if_pos g, if_pos ⟨g.1, by omega⟩]
    · rw [if_neg g, if_neg (fun q => h ⟨q.1, by omega⟩)]
def lyF (A : FT) (i : Nat) : FT := fun s j => if s = 123 ∧ j < 128 then lastW (fun k => A 119 k = nI j) i + nI 1 else A s j
theorem lyF_0 (A : FT) : lyF A 0 = clF A 128 := by
  funext s j
  simp only [lyF, clF]
  split
  · show (-1 : Int32) + nI 1 = nI 0
    decide
  · rfl
theorem lyF_o {A : FT} {i s j : Nat} (h : s ≠ 123) : lyF A i s j = A s j := if_neg (fun g => h g.1)
theorem lyF_n {A : FT} {i : Nat} (h : A 119 i = -1) : lyF A (i + 1) = lyF A i := by
  funext s j
  simp only [lyF]
  by_cases g : s = 123 ∧ j < 128
  · rw [if_pos g, if_pos g, show lastW (fun k => A 119 k = nI j) (i + 1) = lastW (fun k => A 119 k = nI j) i from if_neg (by show ¬ A 119 i = nI j; rw [h]; exact fun e => nI_nm1 (by omega) e.symm)]
  · rw [if_neg g, if_neg g]
theorem lyF_s {A : FT} {i c : Nat} (h : A 119 i = nI c) (hc : c < 128) : u2 (lyF A i) 123 c (nI (i + 1)) = lyF A (i + 1) := by
  funext s j
  simp only [u2, lyF]
  by_cases e : s = 123 ∧ j = c
  · rw [if_pos e, if_pos ⟨e.1, by omega⟩, e.2, show lastW (fun k => A 119 k = nI c) (i + 1) = nI i from if_pos h, nI_add]
  · rw [if_neg e]
    by_cases g : s = 123 ∧ j < 128
    · rw [if_pos g, if_pos g, show lastW (fun k => A 119 k = nI j) (i + 1) = lastW (fun k => A 119 k = nI j) i from if_neg (by show ¬ A 119 i = nI j; rw [h]; exact fun q => e ⟨g.1, ((nI_eq (by omega) (by omega)).mp q).symm⟩)]
    · rw [if_neg g, if_neg g]
theorem C_lay0 {Γ : GTy} {Y : HS} (hS : RS 0 10 1000010 Y) (A : FT) (hP : ∀ k, k < 8 → A 119 k = -1 ∨ ∃ c, c < 128 ∧ A 119 k = nI c) : Tn Γ M_X0_lay [.ref 10] (wB 0 10 1000010 Y A) (rt none (wB 0 10 1000010 Y (lyF A 8))) := by
  refine Tn_of' rfl rfl rfl ?_
  show G Γ M_X0_lay (rm M_X0_lay) (Vn Γ M_X0_lay (rt none (wB 0 10 1000010 Y (lyF A 8)))) (0, 0) 0 [some (.ref 10), none] [] (wB 0 10 1000010 Y A)
  have loop2 : ∀ (n9 j : Nat), j + n9 = 8 → G Γ M_X0_lay (rm M_X0_lay) (Vn Γ M_X0_lay (rt none (wB 0 10 1000010 Y (lyF A 8)))) (0, 0) 26 [some (.ref 10), some (.int (nI j))] [] (wB 0 10 1000010 Y (lyF A j)) := by
    intro n9
    induction n9 with
    | zero =>
      intro j hj
      obtain rfl : j = 8 := by omega
      refine G_iload_n (pc := 26) dX0_lay_26 rfl ?_
      refine G_bipush (pc := 27) (v := nI 8) dX0_lay_27 (by first | rfl | decide) ?_
      refine G_icmp_geN (pc := 29) (tgt := 51) (by omega) (by omega) dX0_lay_29 (by decide) (fun c29 => ?_) (fun c29 => ?_)
      · skip
        refine G_vret (pc := 51) VZ.n dX0_lay_51 rfl ⟨by decide, by decide⟩ ?_
        exact ⟨rfl, rfl⟩
      · omega
    | succ n9 ih =>
      intro j hj
      have hj9 : j < 8 := by omega
      refine G_iload_n (pc := 26) dX0_lay_26 rfl ?_
      refine G_bipush (pc := 27) (v := nI 8) dX0_lay_27 (by first | rfl | decide) ?_
      refine G_icmp_geN (pc := 29) (tgt := 51) (by omega) (by omega) dX0_lay_29 (by decide) (fun c29 => ?_) (fun c29 => ?_)
      · omega
      · skip
        refine G_aload_n (pc := 32) dX0_lay_32 rfl ?_
        refine G_aload_n (pc := 33) dX0_lay_33 rfl ?_
        refine B_arr (pc := 34) (a := 1000129) hS fl_X0_15 rfl rfl dX0_lay_34 ?_
        refine G_iload_n (pc := 37) dX0_lay_37 rfl ?_
        refine B_ldv (pc := 38) (kk := 0) (j := j) (v := A 119 j) (lyF_o (by decide)) hS rfl rfl rfl hj9 dX0_lay_38 ?_
        rcases hP j hj9 with e | ⟨c, c1, e⟩
        · rw [e]
          refine G_iload_n (pc := 39) dX0_lay_39 rfl ?_
          refine G_iconst (pc := 40) (v := nI 1) dX0_lay_40 (by first | rfl | decide) ?_
          refine G_iaddN (pc := 41) dX0_lay_41 ?_
          refine K_Vn2v (pc := 42) (k' := (0, 0)) mok_X0_put lk_X0_18 hS.1 rfl rfl rfl (aok0 rfl) dX0_lay_42 (C_putX hS _ _) rfl ?_
          refine G_iincN (pc := 45) dX0_lay_45 rfl (by decide) ?_
          refine G_goto (pc := 48) (tgt := 26) dX0_lay_48 (by decide) ?_
          have h9 := ih (j + 1) (by omega)
          rw [lyF_n e] at h9
          exact h9
        · rw [e]
          refine G_iload_n (pc := 39) dX0_lay_39 rfl ?_
          refine G_iconst (pc := 40) (v := nI 1) dX0_lay_40 (by first | rfl | decide) ?_
          refine G_iaddN (pc := 41) dX0_lay_41 ?_
          refine K_Vn2v (pc := 42) (k' := (0, 0)) mok_X0_put lk_X0_18 hS.1 rfl rfl rfl (aok0 rfl) dX0_lay_42 (C_putN hS _ c1 _) rfl ?_
          refine G_iincN (pc := 45) dX0_lay_45 rfl (by decide) ?_
          refine G_goto (pc := 48) (tgt := 26) dX0_lay_48 (by decide) ?_
          have h9 := ih (j + 1) (by omega)
          rw [← lyF_s e c1] at h9
          exact h9
  have loop : ∀ (n9 j : Nat), j + n9 = 128 → G Γ M_X0_lay (rm M_X0_lay) (Vn Γ M_X0_lay (rt none (wB 0 10 1000010 Y (lyF A 8)))) (0, 0) 2 [some (.ref 10), some (.int (nI j))] [] (wB 0 10 1000010 Y (clF A j)) := by
    intro n9
    induction n9 with
    | zero =>
      intro j hj
      obtain rfl : j = 128 := by omega
      refine G_iload_n (pc := 2) dX0_lay_2 rfl ?_
      refine G_aload_n (pc := 3) dX0_lay_3 rfl ?_
      refine B_arr (pc := 4) (a := 1000133) hS fl_X0_9 rfl rfl dX0_lay_4 ?_
      refine B_len (pc := 7) (kk := 6) (n := 128) rfl hS rfl rfl dX0_lay_7 ?_
      refine G_icmp_geN (pc := 8) (tgt := 24) (by omega) (by omega) dX0_lay_8 (by decide) (fun c8 => ?_) (fun c8 => ?_)
      · skip
        refine G_iconst (pc := 24) (v := nI 0) dX0_lay_24 (by first | rfl | decide) ?_
        refine G_istore_n (pc := 25) dX0_lay_25 (by decide) ?_
        have h9 := loop2 8 0 rfl
        rw [lyF_0] at h9
        exact h9
      · omega
    | succ n9 ih =>
      intro j hj
      have hj9 : j < 128 := by omega
      refine G_iload_n (pc := 2) dX0_lay_2 rfl ?_
      refine G_aload_n (pc := 3) dX0_lay_3 rfl ?_
      refine B_arr (pc := 4) (a := 1000133) hS fl_X0_9 rfl rfl dX0_lay_4 ?_
      refine B_len (pc := 7) (kk := 6) (n := 128) rfl hS rfl rfl dX0_lay_7 ?_
      refine G_icmp_geN (pc := 8) (tgt := 24) (by omega) (by omega) dX0_lay_8 (by decide) (fun c8 => ?_) (fun c8 => ?_)
      · omega
      · skip
        refine G_aload_n (pc := 11) dX0_lay_11 rfl ?_
        refine B_arr (pc := 12) (a := 1000133) hS fl_X0_9 rfl rfl dX0_lay_12 ?_
        refine G_iload_n (pc := 15) dX0_lay_15 rfl ?_
        refine G_iconst (pc := 16) (v := nI 0) dX0_lay_16 (by first | rfl | decide) ?_
        refine B_st (pc := 17) (kk := 6) (j := j) hS rfl rfl rfl hj9 dX0_lay_17 ?_
        refine G_iincN (pc := 18) dX0_lay_18 rfl (by decide) ?_
        refine G_goto (pc := 21) (tgt := 2) dX0_lay_21 (by decide) ?_
        have h9 := ih (j + 1) (by omega)
        rw [← clF_s] at h9
        exact h9
  refine G_iconst (pc := 0) (v := nI 0) dX0_lay_0 (by first | rfl | decide) ?_
  refine G_istore_n (pc := 1) dX0_lay_1 (by decide) ?_
  have h9 := loop 128 0 rfl
  rw [clF_0] at h9
  exact h9
theorem C_isRolling0 {Γ : GTy} {Y : HS} (hS : RS 0 10 1000010 Y) (A : FT) {F : FT} (hR : RB 0 A F) (hP : PV F) {b : Nat} (hb : b < 8) : Tn Γ M_X6_isRolling [.ref 10, .int (nI b)] (wB 0 10 1000010 Y A) (rt (some (.int (b2 (isR F b)))) (wB 0 10 1000010 Y A)) := by
  refine Tn_of' rfl rfl rfl ?_
  show G Γ M_X6_isRolling (rm M_X6_isRolling) (Vn Γ M_X6_isRolling (rt (some (.int (b2 (isR F b)))) (wB 0 10 1000010 Y A))) (0, 0) 0 [some (.ref 10), some (.int (nI b))] [] (wB 0 10 1000010 Y A)
  refine G_iload_n (pc := 0) dX6_isRolling_0 rfl ?_
  refine G_if_ltN (pc := 1) (tgt := 33) (by omega) dX6_isRolling_1 (by decide) (fun c1 => ?_) (fun c1 => ?_)
  · omega
  · skip
    refine G_iload_n (pc := 4) dX6_isRolling_4 rfl ?_
    refine G_bipush (pc := 5) (v := nI 8) dX6_isRolling_5 (by first | rfl | decide) ?_
    refine G_icmp_geN (pc := 7) (tgt := 33) (by omega) (by omega) dX6_isRolling_7 (by decide) (fun c7 => ?_) (fun c7 => ?_)
    · omega
    · skip
      refine G_aload_n (pc := 10) dX6_isRolling_10 rfl ?_
      refine B_arr (pc := 11) (a := 1000129) hS fl_X6_9_0 rfl rfl dX6_isRolling_11 ?_
      refine G_iload_n (pc := 14) dX6_isRolling_14 rfl ?_
      refine B_ldv (pc := 15) (kk := 0) (j := b) (v := F 119 b) (hR.1 b hb).1 hS rfl rfl rfl (show b < 8 by omega) dX6_isRolling_15 ?_
      refine G_iconst (pc := 16) (v := -1) dX6_isRolling_16 (by first | rfl | decide) ?_
      refine G_icmp_eq (pc := 17) (tgt := 33) dX6_isRolling_17 (by decide) (fun c17 => ?_) (fun c17 => ?_)
      · skip
        have e := b2_f (p := isR F b) (fun g => g.1 (by rw [c17]; decide))
        refine G_iconst (pc := 33) (v := nI 0) dX6_isRolling_33 (by first | rfl | decide) ?_
        refine G_zret (pc := 34) VZ.n dX6_isRolling_34 rfl (Or.inl rfl) ⟨by decide, by decide⟩ ?_
        exact ⟨congrArg (fun z => some (Value.int z)) e.symm, rfl⟩
      · skip
        refine G_aload_n (pc := 20) dX6_isRolling_20 rfl ?_
        refine B_arr (pc := 21) (a := 1000131) hS fl_X6_18_0 rfl rfl dX6_isRolling_21 ?_
        refine G_iload_n (pc := 24) dX6_isRolling_24 rfl ?_
        refine B_ldv (pc := 25) (kk := 2) (j := b) (v := F 121 b) (hR.1 b hb).2.2.1 hS rfl rfl rfl (show b < 8 by omega) dX6_isRolling_25 ?_
        refine G_if_le (pc := 26) (tgt := 33) dX6_isRolling_26 (by decide) (fun c26 => ?_) (fun c26 => ?_)
        · skip
          have e := b2_f (p := isR F b) (fun g => g.2 c26)
          refine G_iconst (pc := 33) (v := nI 0) dX6_isRolling_33 (by first | rfl | decide) ?_
          refine G_zret (pc := 34) VZ.n dX6_isRolling_34 rfl (Or.inl rfl) ⟨by decide, by decide⟩ ?_
          exact ⟨congrArg (fun z => some (Value.int z)) e.symm, rfl⟩
        · skip
          have e := b2_t (p := isR F b) ⟨hP.nl hb c17, c26⟩
          refine G_iconst (pc := 29) (v := nI 1) dX6_isRolling_29 (by first | rfl | decide) ?_
          refine G_goto (pc := 30) (tgt := 34) dX6_isRolling_30 (by decide) ?_
          refine G_zret (pc := 34) VZ.n dX6_isRolling_34 rfl (Or.inr rfl) ⟨by decide, by decide⟩ ?_
          exact ⟨congrArg (fun z => some (Value.int z)) e.symm, rfl⟩
theorem anyB_iff {p : Nat → Prop} [DecidablePred p] : ∀ n, anyB p n = true ↔ ∃ i, i < n ∧ p i
  | 0 => ⟨fun h => absurd (show false = true from h) (by decide), fun ⟨i, h, _⟩ => absurd h (Nat.not_lt_zero i)⟩
  | n + 1 => by
    show (anyB p n || decide (p n)) = true ↔ _
    rw [Bool.or_eq_true, anyB_iff n, decide_eq_true_eq]
    constructor
    · rintro (⟨i, h1, h2⟩ | h)
      · exact ⟨i, by omega, h2⟩
      · exact ⟨n, by omega, h⟩
    · rintro ⟨i, h1, h2⟩
      by_cases e : i = n
      · exact Or.inr (e ▸ h2)
      · exact Or.inl ⟨i, by omega, h2⟩
theorem C_isSome0 {Γ : GTy} {Y : HS} (hS : RS 0 10 1000010 Y) (A : FT) {F : FT} (hR : RB 0 A F) (hP : PV F) : Tn Γ M_X6_isSomeRolling [.ref 10] (wB 0 10 1000010 Y A) (rt (some (.int (b2 (anyB (isR F) 8 = true)))) (wB 0 10 1000010 Y A)) := by
  refine Tn_of' rfl rfl rfl ?_
  show G Γ M_X6_isSomeRolling (rm M_X6_isSomeRolling) (Vn Γ M_X6_isSomeRolling (rt (some (.int (b2 (anyB (isR F) 8 = true)))) (wB 0 10 1000010 Y A))) (0, 0) 0 [some (.ref 10), none] [] (wB 0 10 1000010 Y A)
  have loop : ∀ (n9 j : Nat), j + n9 = 8 → (∀ i, i < j → ¬ isR F i) → G Γ M_X6_isSomeRolling (rm M_X6_isSomeRolling) (Vn Γ M_X6_isSomeRolling (rt (some (.int (b2 (anyB (isR F) 8 = true)))) (wB 0 10 1000010 Y A))) (0, 0) 2 [some (.ref 10), some (.int (nI j))] [] (wB 0 10 1000010 Y A) := by
    intro n9
    induction n9 with
    | zero =>
      intro j hj hq
      obtain rfl : j = 8 := by omega
      refine G_iload_n (pc := 2) dX6_isSomeRolling_2 rfl ?_
      refine G_bipush (pc := 3) (v := nI 8) dX6_isSomeRolling_3 (by first | rfl | decide) ?_
      refine G_icmp_geN (pc := 5) (tgt := 24) (by omega) (by omega) dX6_isSomeRolling_5 (by decide) (fun c5 => ?_) (fun c5 => ?_)
      · skip
        refine G_iconst (pc := 24) (v := nI 0) dX6_isSomeRolling_24 (by first | rfl | decide) ?_
        refine G_zret (pc := 25) VZ.n dX6_isSomeRolling_25 rfl (Or.inl rfl) ⟨by decide, by decide⟩ ?_
        exact ⟨congrArg (fun z => some (Value.int z)) (b2_f (fun g => by obtain ⟨i, g1, g2⟩ := (anyB_iff 8).mp g; exact hq i g1 g2)).symm, rfl⟩
      · omega
    | succ n9 ih =>
      intro j hj hq
      have hj9 : j < 8 := by omega
      refine G_iload_n (pc := 2) dX6_isSomeRolling_2 rfl ?_
      refine G_bipush (pc := 3) (v := nI 8) dX6_isSomeRolling_3 (by first | rfl | decide) ?_
      refine G_icmp_geN (pc := 5) (tgt := 24) (by omega) (by omega) dX6_isSomeRolling_5 (by decide) (fun c5 => ?_) (fun c5 => ?_)
      · omega
      · skip
        refine G_aload_n (pc := 8) dX6_isSomeRolling_8 rfl ?_
        refine G_iload_n (pc := 9) dX6_isSomeRolling_9 rfl ?_
        refine K_U1r (pc := 10) (cb := 0) (k' := (0, 0)) mok_X6_isRolling lk_X6_39_0 rfl hS.1 rfl rfl (aok0 rfl) dX6_isSomeRolling_10 (C_isRolling0 hS A hR hP hj9) rfl ?_
        refine G_if_eqB (pc := 13) (tgt := 18) dX6_isSomeRolling_13 (by decide) (fun c13 => ?_) (fun c13 => ?_)
        · skip
          refine G_iincN (pc := 18) dX6_isSomeRolling_18 rfl (by decide) ?_
          refine G_goto (pc := 21) (tgt := 2) dX6_isSomeRolling_21 (by decide) ?_
          exact ih (j + 1) (by omega) (fun i hi => by by_cases e : i = j; (subst e; exact c13); exact hq i (by omega))
        · skip
          refine G_iconst (pc := 16) (v := nI 1) dX6_isSomeRolling_16 (by first | rfl | decide) ?_
          refine G_zret (pc := 17) VZ.n dX6_isSomeRolling_17 rfl (Or.inr rfl) ⟨by decide, by decide⟩ ?_
          exact ⟨congrArg (fun z => some (Value.int z)) (b2_t ((anyB_iff 8).mpr ⟨j, hj9, c13⟩)).symm, rfl⟩
  refine G_iconst (pc := 0) (v := nI 0) dX6_isSomeRolling_0 (by first | rfl | decide) ?_
  refine G_istore_n (pc := 1) dX6_isSomeRolling_1 (by decide) ?_
  exact loop 8 0 rfl (fun i hi => absurd hi (Nat.not_lt_zero i))
theorem C_meet0 {Γ : GTy} {Y : HS} (hS : RS 0 10 1000010 Y) (A : FT) {b o d : Nat} (hb : b < 8) (ho : o < 8) (hd : A 120 b = nI d) : Tn Γ M_X6_meet [.ref 10, .int (nI b), .int (nI o)] (wB 0 10 1000010 Y A) (rt none (wB 0 10 1000010 Y (cMeet A b o d))) := by
  refine Tn_of' rfl rfl rfl ?_
  show G Γ M_X6_meet (rm M_X6_meet) (Vn Γ M_X6_meet (rt none (wB 0 10 1000010 Y (cMeet A b o d)))) (0, 0) 0 [some (.ref 10), some (.int (nI b)), some (.int (nI o)), none] [] (wB 0 10 1000010 Y A)
  refine G_aload_n (pc := 0) dX6_meet_0 rfl ?_
  refine B_arr (pc := 1) (a := 1000131) hS fl_X6_18_0 rfl rfl dX6_meet_1 ?_
  refine G_iload_n (pc := 4) dX6_meet_4 rfl ?_
  refine B_ldv (pc := 5) (kk := 2) (j := b) (v := A 121 b) rfl hS rfl rfl rfl (show b < 8 by omega) dX6_meet_5 ?_
  refine G_iconst (pc := 6) (v := nI 1) dX6_meet_6 (by first | rfl | decide) ?_
  refine G_iadd (pc := 7) dX6_meet_7 ?_
  refine G_iconst (pc := 8) (v := nI 2) dX6_meet_8 (by first | rfl | decide) ?_
  refine G_idiv (pc := 9) dX6_meet_9 (by decide) ?_
  refine G_istore_n (pc := 10) dX6_meet_10 (by decide) ?_
  refine G_aload_n (pc := 11) dX6_meet_11 rfl ?_
  refine B_arr (pc := 12) (a := 1000130) hS fl_X6_15_0 rfl rfl dX6_meet_12 ?_
  refine G_iload_n (pc := 15) dX6_meet_15 rfl ?_
  refine G_aload_n (pc := 16) dX6_meet_16 rfl ?_
  refine B_arr (pc := 17) (a := 1000130) hS fl_X6_15_0 rfl rfl dX6_meet_17 ?_
  refine G_iload_n (pc := 20) dX6_meet_20 rfl ?_
  refine B_ldv (pc := 21) (kk := 1) (j := b) (v := nI d) hd hS rfl rfl rfl (show b < 8 by omega) dX6_meet_21 ?_
  refine B_st (pc := 22) (kk := 1) (j := o) hS rfl rfl rfl (show o < 8 by omega) dX6_meet_22 ?_
  refine G_aload_n (pc := 23) dX6_meet_23 rfl ?_
  refine B_arr (pc := 24) (a := 1000131) hS fl_X6_18_0 rfl rfl dX6_meet_24 ?_
  refine G_iload_n (pc := 27) dX6_meet_27 rfl ?_
  refine G_dup2 (pc := 28) dX6_meet_28 rfl rfl ?_
  refine B_ldv (pc := 29) (kk := 2) (j := b) (v := A 121 b) rfl hS rfl rfl rfl (show b < 8 by omega) dX6_meet_29 ?_
  refine G_iload_n (pc := 30) dX6_meet_30 rfl ?_
  refine G_isub (pc := 31) dX6_meet_31 ?_
  refine B_st (pc := 32) (kk := 2) (j := b) hS rfl rfl rfl (show b < 8 by omega) dX6_meet_32 ?_
  refine G_aload_n (pc := 33) dX6_meet_33 rfl ?_
  refine B_arr (pc := 34) (a := 1000131) hS fl_X6_18_0 rfl rfl dX6_meet_34 ?_
  refine G_iload_n (pc := 37) dX6_meet_37 rfl ?_
  refine G_dup2 (pc := 38) dX6_meet_38 rfl rfl ?_
  refine B_ldv (pc := 39) (kk := 2) (j := o) (v := u2 A 121 b (A 121 b - (A 121 b + nI 1) / nI 2) 121 o) rfl hS rfl rfl rfl (show o < 8 by omega) dX6_meet_39 ?_
  refine G_iload_n (pc := 40) dX6_meet_40 rfl ?_
  refine G_iadd (pc := 41) dX6_meet_41 ?_
  refine B_st (pc := 42) (kk := 2) (j := o) hS rfl rfl rfl (show o < 8 by omega) dX6_meet_42 ?_
  refine G_aload_n (pc := 43) dX6_meet_43 rfl ?_
  refine G_dup (pc := 44) dX6_meet_44 rfl ?_
  refine B_getv (pc := 45) (kk := 4) (v := A 23 0) rfl hS fl_X6_25_0 (by decide) dX6_meet_45 ?_
  refine G_iconst (pc := 48) (v := nI 1) dX6_meet_48 (by first | rfl | decide) ?_
  refine G_iadd (pc := 49) dX6_meet_49 ?_
  refine B_put (pc := 50) (kk := 4) hS fl_X6_25_0 fw_0_4 (by decide) dX6_meet_50 ?_
  refine G_iload_n (pc := 53) dX6_meet_53 rfl ?_
  refine G_if_neN (pc := 54) (tgt := 70) (by omega) dX6_meet_54 (by decide) (fun c54 => ?_) (fun c54 => ?_)
  · skip
    have e : (if b = 0 ∧ A 22 0 = -1 then nI o else A 22 0) = A 22 0 := if_neg (fun g => c54 g.1)
    refine G_vret (pc := 70) VZ.n dX6_meet_70 rfl ⟨by decide, by decide⟩ ?_
    unfold cMeet
    rw [e]
    refine ⟨rfl, ?_⟩
    first
      | rfl
      | exact congrArg (wB 0 10 1000010 Y) (u2_id rfl).symm
  · skip
    refine G_aload_n (pc := 57) dX6_meet_57 rfl ?_
    refine B_getv (pc := 58) (kk := 5) (v := A 22 0) rfl hS fl_X6_29_0 (by decide) dX6_meet_58 ?_
    refine G_iconst (pc := 61) (v := -1) dX6_meet_61 (by first | rfl | decide) ?_
    refine G_icmp_ne (pc := 62) (tgt := 70) dX6_meet_62 (by decide) (fun c62 => ?_) (fun c62 => ?_)
    · skip
      have e : (if b = 0 ∧ A 22 0 = -1 then nI o else A 22 0) = A 22 0 := if_neg (fun g => c62 g.2)
      refine G_vret (pc := 70) VZ.n dX6_meet_70 rfl ⟨by decide, by decide⟩ ?_
      unfold cMeet
      rw [e]
      refine ⟨rfl, ?_⟩
      first
        | rfl
        | exact congrArg (wB 0 10 1000010 Y) (u2_id rfl).symm
    · skip
      have e : (if b = 0 ∧ A 22 0 = -1 then nI o else A 22 0) = nI o := if_pos ⟨c54, c62⟩
      refine G_aload_n (pc := 65) dX6_meet_65 rfl ?_
      refine G_iload_n (pc := 66) dX6_meet_66 rfl ?_
      refine B_put (pc := 67) (kk := 5) hS fl_X6_29_0 fw_0_5 (by decide) dX6_meet_67 ?_
      refine G_vret (pc := 70) VZ.n dX6_meet_70 rfl ⟨by decide, by decide⟩ ?_
      unfold cMeet
      rw [e]
      refine ⟨rfl, ?_⟩
      first
        | rfl
        | exact congrArg (wB 0 10 1000010 Y) (u2_id rfl).symm
theorem C_roll01 {Γ : GTy} {Y : HS} (hS : RS 0 10 1000010 Y) (A : FT) (hG : GS Γ) {b x y : Nat} (hb : b < 8) (hx : A 119 b = nI x) (x1 : x < 128) (y1 : y < 128) (hp : pkN y) : Tn Γ M_X6_roll [.ref 10, .int (nI b), .int (nI y)] (wB 0 10 1000010 Y A) (rt none (wB 0 10 1000010 Y (cMove 0 A b x y))) := by
  refine Tn_of' rfl rfl rfl ?_
  show G Γ M_X6_roll (rm M_X6_roll) (Vn Γ M_X6_roll (rt none (wB 0 10 1000010 Y (cMove 0 A b x y)))) (0, 0) 0 [some (.ref 10), some (.int (nI b)), some (.int (nI y)), none] [] (wB 0 10 1000010 Y A)
  refine G_aload_n (pc := 0) dX6_roll_0 rfl ?_
  refine B_arr (pc := 1) (a := 1000129) hS fl_X6_9_0 rfl rfl dX6_roll_1 ?_
  refine G_iload_n (pc := 4) dX6_roll_4 rfl ?_
  refine B_ldv (pc := 5) (kk := 0) (j := b) (v := nI x) hx hS rfl rfl rfl (show b < 8 by omega) dX6_roll_5 ?_
  refine G_istore_n (pc := 6) dX6_roll_6 (by decide) ?_
  refine G_aload_n (pc := 7) dX6_roll_7 rfl ?_
  refine B_arr (pc := 8) (a := 1000131) hS fl_X6_18_0 rfl rfl dX6_roll_8 ?_
  refine G_iload_n (pc := 11) dX6_roll_11 rfl ?_
  refine G_dup2 (pc := 12) dX6_roll_12 rfl rfl ?_
  refine B_ldv (pc := 13) (kk := 2) (j := b) (v := A 121 b) rfl hS rfl rfl rfl (show b < 8 by omega) dX6_roll_13 ?_
  refine G_iconst (pc := 14) (v := nI 1) dX6_roll_14 (by first | rfl | decide) ?_
  refine G_isub (pc := 15) dX6_roll_15 ?_
  refine B_st (pc := 16) (kk := 2) (j := b) hS rfl rfl rfl (show b < 8 by omega) dX6_roll_16 ?_
  refine G_aload_n (pc := 17) dX6_roll_17 rfl ?_
  refine B_arr (pc := 18) (a := 1000132) hS fl_X6_21_0 rfl rfl dX6_roll_18 ?_
  refine G_iload_n (pc := 21) dX6_roll_21 rfl ?_
  refine G_iload_n (pc := 22) dX6_roll_22 rfl ?_
  refine K_NS1r (pc := 23) (k' := (0, 0)) mok_X9_isPocket lk_X6_64 rfl (aok0 rfl) dX6_roll_23 (C_pocketC hG y1 _) rfl ?_
  refine B_bst (pc := 26) (kk := 3) (j := b) hS rfl rfl rfl (show b < 8 by omega) (b2_or _) dX6_roll_26 ?_
  refine G_aload_n (pc := 27) dX6_roll_27 rfl ?_
  refine B_arr (pc := 28) (a := 1000129) hS fl_X6_9_0 rfl rfl dX6_roll_28 ?_
  refine G_iload_n (pc := 31) dX6_roll_31 rfl ?_
  refine G_aload_n (pc := 32) dX6_roll_32 rfl ?_
  refine B_arr (pc := 33) (a := 1000132) hS fl_X6_21_0 rfl rfl dX6_roll_33 ?_
  refine G_iload_n (pc := 36) dX6_roll_36 rfl ?_
  refine B_bldv (pc := 37) (kk := 3) (j := b) (v := b2 (pkN y)) u2_e hS rfl rfl rfl (show b < 8 by omega) dX6_roll_37 ?_
  refine G_if_eqB (pc := 38) (tgt := 45) dX6_roll_38 (by decide) (fun c38 => ?_) (fun c38 => ?_)
  · exact absurd hp c38
  · skip
    refine G_iconst (pc := 41) (v := -1) dX6_roll_41 (by first | rfl | decide) ?_
    refine G_goto (pc := 42) (tgt := 46) dX6_roll_42 (by decide) ?_
    refine B_st (pc := 46) (kk := 0) (j := b) hS rfl rfl rfl (show b < 8 by omega) dX6_roll_46 ?_
    refine G_aload_n (pc := 47) dX6_roll_47 rfl ?_
    refine G_iload_n (pc := 48) dX6_roll_48 rfl ?_
    refine G_iload_n (pc := 49) dX6_roll_49 rfl ?_
    refine G_aload_n (pc := 50) dX6_roll_50 rfl ?_
    refine B_arr (pc := 51) (a := 1000129) hS fl_X6_9_0 rfl rfl dX6_roll_51 ?_
    refine G_iload_n (pc := 54) dX6_roll_54 rfl ?_
    refine B_ldv (pc := 55) (kk := 0) (j := b) (v := -1) u2_e hS rfl rfl rfl (show b < 8 by omega) dX6_roll_55 ?_
    refine K_U3v (pc := 56) (cb := 0) (k' := (0, 0)) mok_X0_note lk_X6_67_0 rfl hS.1 rfl rfl (aok0 rfl) dX6_roll_56 (C_note0X hS _ x1) rfl ?_
    refine G_vret (pc := 59) VZ.n dX6_roll_59 rfl ⟨by decide, by decide⟩ ?_
    refine ⟨rfl, congrArg (wB 0 10 1000010 Y) ?_⟩
    unfold cMove cMv
    rw [if_pos rfl, if_pos hp, if_pos hp]
    rfl
theorem C_roll00 {Γ : GTy} {Y : HS} (hS : RS 0 10 1000010 Y) (A : FT) (hG : GS Γ) {b x y : Nat} (hb : b < 8) (hx : A 119 b = nI x) (x1 : x < 128) (y1 : y < 128) (hp : ¬ pkN y) : Tn Γ M_X6_roll [.ref 10, .int (nI b), .int (nI y)] (wB 0 10 1000010 Y A) (rt none (wB 0 10 1000010 Y (cMove 0 A b x y))) := by
  refine Tn_of' rfl rfl rfl ?_
  show G Γ M_X6_roll (rm M_X6_roll) (Vn Γ M_X6_roll (rt none (wB 0 10 1000010 Y (cMove 0 A b x y)))) (0, 0) 0 [some (.ref 10), some (.int (nI b)), some (.int (nI y)), none] [] (wB 0 10 1000010 Y A)
  refine G_aload_n (pc := 0) dX6_roll_0 rfl ?_
  refine B_arr (pc := 1) (a := 1000129) hS fl_X6_9_0 rfl rfl dX6_roll_1 ?_
  refine G_iload_n (pc := 4) dX6_roll_4 rfl ?_
  refine B_ldv (pc := 5) (kk := 0) (j := b) (v := nI x) hx hS rfl rfl rfl (show b < 8 by omega) dX6_roll_5 ?_
  refine G_istore_n (pc := 6) dX6_roll_6 (by decide) ?_
  refine G_aload_n (pc := 7) dX6_roll_7 rfl ?_
  refine B_arr (pc := 8) (a := 1000131) hS fl_X6_18_0 rfl rfl dX6_roll_8 ?_
  refine G_iload_n (pc := 11) dX6_roll_11 rfl ?_
  refine G_dup2 (pc := 12) dX6_roll_12 rfl rfl ?_
  refine B_ldv (pc := 13) (kk := 2) (j := b) (v := A 121 b) rfl hS rfl rfl rfl (show b < 8 by omega) dX6_roll_13 ?_
  refine G_iconst (pc := 14) (v := nI 1) dX6_roll_14 (by first | rfl | decide) ?_
  refine G_isub (pc := 15) dX6_roll_15 ?_
  refine B_st (pc := 16) (kk := 2) (j := b) hS rfl rfl rfl (show b < 8 by omega) dX6_roll_16 ?_
  refine G_aload_n (pc := 17) dX6_roll_17 rfl ?_
  refine B_arr (pc := 18) (a := 1000132) hS fl_X6_21_0 rfl rfl dX6_roll_18 ?_
  refine G_iload_n (pc := 21) dX6_roll_21 rfl ?_
  refine G_iload_n (pc := 22) dX6_roll_22 rfl ?_
  refine K_NS1r (pc := 23) (k' := (0, 0)) mok_X9_isPocket lk_X6_64 rfl (aok0 rfl) dX6_roll_23 (C_pocketC hG y1 _) rfl ?_
  refine B_bst (pc := 26) (kk := 3) (j := b) hS rfl rfl rfl (show b < 8 by omega) (b2_or _) dX6_roll_26 ?_
  refine G_aload_n (pc := 27) dX6_roll_27 rfl ?_
  refine B_arr (pc := 28) (a := 1000129) hS fl_X6_9_0 rfl rfl dX6_roll_28 ?_
  refine G_iload_n (pc := 31) dX6_roll_31 rfl ?_
  refine G_aload_n (pc := 32) dX6_roll_32 rfl ?_
  refine B_arr (pc := 33) (a := 1000132) hS fl_X6_21_0 rfl rfl dX6_roll_33 ?_
  refine G_iload_n (pc := 36) dX6_roll_36 rfl ?_
  refine B_bldv (pc := 37) (kk := 3) (j := b) (v := b2 (pkN y)) u2_e hS rfl rfl rfl (show b < 8 by omega) dX6_roll_37 ?_
  refine G_if_eqB (pc := 38) (tgt := 45) dX6_roll_38 (by decide) (fun c38 => ?_) (fun c38 => ?_)
  · skip
    refine G_iload_n (pc := 45) dX6_roll_45 rfl ?_
    refine B_st (pc := 46) (kk := 0) (j := b) hS rfl rfl rfl (show b < 8 by omega) dX6_roll_46 ?_
    refine G_aload_n (pc := 47) dX6_roll_47 rfl ?_
    refine G_iload_n (pc := 48) dX6_roll_48 rfl ?_
    refine G_iload_n (pc := 49) dX6_roll_49 rfl ?_
    refine G_aload_n (pc := 50) dX6_roll_50 rfl ?_
    refine B_arr (pc := 51) (a := 1000129) hS fl_X6_9_0 rfl rfl dX6_roll_51 ?_
    refine G_iload_n (pc := 54) dX6_roll_54 rfl ?_
    refine B_ldv (pc := 55) (kk := 0) (j := b) (v := nI y) u2_e hS rfl rfl rfl (show b < 8 by omega) dX6_roll_55 ?_
    refine K_U3v (pc := 56) (cb := 0) (k' := (0, 0)) mok_X0_note lk_X6_67_0 rfl hS.1 rfl rfl (aok0 rfl) dX6_roll_56 (C_note0N hS _ x1 y1) rfl ?_
    refine G_vret (pc := 59) VZ.n dX6_roll_59 rfl ⟨by decide, by decide⟩ ?_
    refine ⟨rfl, congrArg (wB 0 10 1000010 Y) ?_⟩
    unfold cMove cMv
    rw [if_pos rfl, if_neg hp, if_neg hp]
    rfl
  · exact absurd c38 hp
theorem C_roll0 {Γ : GTy} {Y : HS} (hS : RS 0 10 1000010 Y) (A : FT) (hG : GS Γ) {b x y : Nat} (hb : b < 8) (hx : A 119 b = nI x) (x1 : x < 128) (y1 : y < 128) : Tn Γ M_X6_roll [.ref 10, .int (nI b), .int (nI y)] (wB 0 10 1000010 Y A) (rt none (wB 0 10 1000010 Y (cMove 0 A b x y))) := by
  by_cases hp : pkN y
  · exact C_roll01 hS A hG hb hx x1 y1 hp
  · exact C_roll00 hS A hG hb hx x1 y1 hp
theorem C_isRolling4 {Γ : GTy} {Y : HS} (hS : RS 4 400010 1400010 Y) (A : FT) {F : FT} (hR : RB 4 A F) (hP : PV F) {b : Nat} (hb : b < 8) : Tn Γ M_X6_isRolling [.ref 400010, .int (nI b)] (wB 4 400010 1400010 Y A) (rt (some (.int (b2 (isR F b)))) (wB 4 400010 1400010 Y A)) := by
  refine Tn_of' rfl rfl rfl ?_
  show G Γ M_X6_isRolling (rm M_X6_isRolling) (Vn Γ M_X6_isRolling (rt (some (.int (b2 (isR F b)))) (wB 4 400010 1400010 Y A))) (0, 0) 0 [some (.ref 400010), some (.int (nI b))] [] (wB 4 400010 1400010 Y A)
  refine G_iload_n (pc := 0) dX6_isRolling_0 rfl ?_
  refine G_if_ltN (pc := 1) (tgt := 33) (by omega) dX6_isRolling_1 (by decide) (fun c1 => ?_) (fun c1 => ?_)
  · omega
  · skip
    refine G_iload_n (pc := 4) dX6_isRolling_4 rfl ?_
    refine G_bipush (pc := 5) (v := nI 8) dX6_isRolling_5 (by first | rfl | decide) ?_
    refine G_icmp_geN (pc := 7) (tgt := 33) (by omega) (by omega) dX6_isRolling_7 (by decide) (fun c7 => ?_) (fun c7 => ?_)
    · omega
    · skip
      refine G_aload_n (pc := 10) dX6_isRolling_10 rfl ?_
      refine B_arr (pc := 11) (a := 1400129) hS fl_X6_9_4 rfl rfl dX6_isRolling_11 ?_
      refine G_iload_n (pc := 14) dX6_isRolling_14 rfl ?_
      refine B_ldv (pc := 15) (kk := 0) (j := b) (v := F 119 b) (hR.1 b hb).1 hS rfl rfl rfl (show b < 8 by omega) dX6_isRolling_15 ?_
      refine G_iconst (pc := 16) (v := -1) dX6_isRolling_16 (by first | rfl | decide) ?_
      refine G_icmp_eq (pc := 17) (tgt := 33) dX6_isRolling_17 (by decide) (fun c17 => ?_) (fun c17 => ?_)
      · skip
        have e := b2_f (p := isR F b) (fun g => g.1 (by rw [c17]; decide))
        refine G_iconst (pc := 33) (v := nI 0) dX6_isRolling_33 (by first | rfl | decide) ?_
        refine G_zret (pc := 34) VZ.n dX6_isRolling_34 rfl (Or.inl rfl) ⟨by decide, by decide⟩ ?_
        exact ⟨congrArg (fun z => some (Value.int z)) e.symm, rfl⟩
      · skip
        refine G_aload_n (pc := 20) dX6_isRolling_20 rfl ?_
        refine B_arr (pc := 21) (a := 1400131) hS fl_X6_18_4 rfl rfl dX6_isRolling_21 ?_
        refine G_iload_n (pc := 24) dX6_isRolling_24 rfl ?_
        refine B_ldv (pc := 25) (kk := 2) (j := b) (v := F 121 b) (hR.1 b hb).2.2.1 hS rfl rfl rfl (show b < 8 by omega) dX6_isRolling_25 ?_
        refine G_if_le (pc := 26) (tgt := 33) dX6_isRolling_26 (by decide) (fun c26 => ?_) (fun c26 => ?_)
        · skip
          have e := b2_f (p := isR F b) (fun g => g.2 c26)
          refine G_iconst (pc := 33) (v := nI 0) dX6_isRolling_33 (by first | rfl | decide) ?_
          refine G_zret (pc := 34) VZ.n dX6_isRolling_34 rfl (Or.inl rfl) ⟨by decide, by decide⟩ ?_
          exact ⟨congrArg (fun z => some (Value.int z)) e.symm, rfl⟩
        · skip
          have e := b2_t (p := isR F b) ⟨hP.nl hb c17, c26⟩
          refine G_iconst (pc := 29) (v := nI 1) dX6_isRolling_29 (by first | rfl | decide) ?_
          refine G_goto (pc := 30) (tgt := 34) dX6_isRolling_30 (by decide) ?_
          refine G_zret (pc := 34) VZ.n dX6_isRolling_34 rfl (Or.inr rfl) ⟨by decide, by decide⟩ ?_
          exact ⟨congrArg (fun z => some (Value.int z)) e.symm, rfl⟩
theorem C_isSome4 {Γ : GTy} {Y : HS} (hS : RS 4 400010 1400010 Y) (A : FT) {F : FT} (hR : RB 4 A F) (hP : PV F) : Tn Γ M_X6_isSomeRolling [.ref 400010] (wB 4 400010 1400010 Y A) (rt (some (.int (b2 (anyB (isR F) 8 = true)))) (wB 4 400010 1400010 Y A)) := by
  refine Tn_of' rfl rfl rfl ?_
  show G Γ M_X6_isSomeRolling (rm M_X6_isSomeRolling) (Vn Γ M_X6_isSomeRolling (rt (some (.int (b2 (anyB (isR F) 8 = true)))) (wB 4 400010 1400010 Y A))) (0, 0) 0 [some (.ref 400010), none] [] (wB 4 400010 1400010 Y A)
  have loop : ∀ (n9 j : Nat), j + n9 = 8 → (∀ i, i < j → ¬ isR F i) → G Γ M_X6_isSomeRolling (rm M_X6_isSomeRolling) (Vn Γ M_X6_isSomeRolling (rt (some (.int (b2 (anyB (isR F) 8 = true)))) (wB 4 400010 1400010 Y A))) (0, 0) 2 [some (.ref 400010), some (.int (nI j))] [] (wB 4 400010 1400010 Y A) := by
    intro n9
    induction n9 with
    | zero =>
      intro j hj hq
      obtain rfl : j = 8 := by omega
      refine G_iload_n (pc := 2) dX6_isSomeRolling_2 rfl ?_
      refine G_bipush (pc := 3) (v := nI 8) dX6_isSomeRolling_3 (by first | rfl | decide) ?_
      refine G_icmp_geN (pc := 5) (tgt := 24) (by omega) (by omega) dX6_isSomeRolling_5 (by decide) (fun c5 => ?_) (fun c5 => ?_)
      · skip
        refine G_iconst (pc := 24) (v := nI 0) dX6_isSomeRolling_24 (by first | rfl | decide) ?_
        refine G_zret (pc := 25) VZ.n dX6_isSomeRolling_25 rfl (Or.inl rfl) ⟨by decide, by decide⟩ ?_
        exact ⟨congrArg (fun z => some (Value.int z)) (b2_f (fun g => by obtain ⟨i, g1, g2⟩ := (anyB_iff 8).mp g; exact hq i g1 g2)).symm, rfl⟩
      · omega
    | succ n9 ih =>
      intro j hj hq
      have hj9 : j < 8 := by omega
      refine G_iload_n (pc := 2) dX6_isSomeRolling_2 rfl ?_
      refine G_bipush (pc := 3) (v := nI 8) dX6_isSomeRolling_3 (by first | rfl | decide) ?_
      refine G_icmp_geN (pc := 5) (tgt := 24) (by omega) (by omega) dX6_isSomeRolling_5 (by decide) (fun c5 => ?_) (fun c5 => ?_)
      · omega
      · skip
        refine G_aload_n (pc := 8) dX6_isSomeRolling_8 rfl ?_
        refine G_iload_n (pc := 9) dX6_isSomeRolling_9 rfl ?_
        refine K_U1r (pc := 10) (cb := 4) (k' := (0, 0)) mok_X6_isRolling lk_X6_39_4 rfl hS.1 rfl rfl (aok0 rfl) dX6_isSomeRolling_10 (C_isRolling4 hS A hR hP hj9) rfl ?_
        refine G_if_eqB (pc := 13) (tgt := 18) dX6_isSomeRolling_13 (by decide) (fun c13 => ?_) (fun c13 => ?_)
        · skip
          refine G_iincN (pc := 18) dX6_isSomeRolling_18 rfl (by decide) ?_
          refine G_goto (pc := 21) (tgt := 2) dX6_isSomeRolling_21 (by decide) ?_
          exact ih (j + 1) (by omega) (fun i hi => by by_cases e : i = j; (subst e; exact c13); exact hq i (by omega))
        · skip
          refine G_iconst (pc := 16) (v := nI 1) dX6_isSomeRolling_16 (by first | rfl | decide) ?_
          refine G_zret (pc := 17) VZ.n dX6_isSomeRolling_17 rfl (Or.inr rfl) ⟨by decide, by decide⟩ ?_
          exact ⟨congrArg (fun z => some (Value.int z)) (b2_t ((anyB_iff 8).mpr ⟨j, hj9, c13⟩)).symm, rfl⟩
  refine G_iconst (pc := 0) (v := nI 0) dX6_isSomeRolling_0 (by first | rfl | decide) ?_
  refine G_istore_n (pc := 1) dX6_isSomeRolling_1 (by decide) ?_
  exact loop 8 0 rfl (fun i hi => absurd hi (Nat.not_lt_zero i))
theorem C_meet4 {Γ : GTy} {Y : HS} (hS : RS 4 400010 1400010 Y) (A : FT) {b o d : Nat} (hb : b < 8) (ho : o < 8) (hd : A 120 b = nI d) : Tn Γ M_X6_meet [.ref 400010, .int (nI b), .int (nI o)] (wB 4 400010 1400010 Y A) (rt none (wB 4 400010 1400010 Y (cMeet A b o d))) := by
  refine Tn_of' rfl rfl rfl ?_
  show G Γ M_X6_meet (rm M_X6_meet) (Vn Γ M_X6_meet (rt none (wB 4 400010 1400010 Y (cMeet A b o d)))) (0, 0) 0 [some (.ref 400010), some (.int (nI b)), some (.int (nI o)), none] [] (wB 4 400010 1400010 Y A)
  refine G_aload_n (pc := 0) dX6_meet_0 rfl ?_
  refine B_arr (pc := 1) (a := 1400131) hS fl_X6_18_4 rfl rfl dX6_meet_1 ?_
  refine G_iload_n (pc := 4) dX6_meet_4 rfl ?_
  refine B_ldv (pc := 5) (kk := 2) (j := b) (v := A 121 b) rfl hS rfl rfl rfl (show b < 8 by omega) dX6_meet_5 ?_
  refine G_iconst (pc := 6) (v := nI 1) dX6_meet_6 (by first | rfl | decide) ?_
  refine G_iadd (pc := 7) dX6_meet_7 ?_
  refine G_iconst (pc := 8) (v := nI 2) dX6_meet_8 (by first | rfl | decide) ?_
  refine G_idiv (pc := 9) dX6_meet_9 (by decide) ?_
  refine G_istore_n (pc := 10) dX6_meet_10 (by decide) ?_
  refine G_aload_n (pc := 11) dX6_meet_11 rfl ?_
  refine B_arr (pc := 12) (a := 1400130) hS fl_X6_15_4 rfl rfl dX6_meet_12 ?_
  refine G_iload_n (pc := 15) dX6_meet_15 rfl ?_
  refine G_aload_n (pc := 16) dX6_meet_16 rfl ?_
  refine B_arr (pc := 17) (a := 1400130) hS fl_X6_15_4 rfl rfl dX6_meet_17 ?_
  refine G_iload_n (pc := 20) dX6_meet_20 rfl ?_
  refine B_ldv (pc := 21) (kk := 1) (j := b) (v := nI d) hd hS rfl rfl rfl (show b < 8 by omega) dX6_meet_21 ?_
  refine B_st (pc := 22) (kk := 1) (j := o) hS rfl rfl rfl (show o < 8 by omega) dX6_meet_22 ?_
  refine G_aload_n (pc := 23) dX6_meet_23 rfl ?_
  refine B_arr (pc := 24) (a := 1400131) hS fl_X6_18_4 rfl rfl dX6_meet_24 ?_
  refine G_iload_n (pc := 27) dX6_meet_27 rfl ?_
  refine G_dup2 (pc := 28) dX6_meet_28 rfl rfl ?_
  refine B_ldv (pc := 29) (kk := 2) (j := b) (v := A 121 b) rfl hS rfl rfl rfl (show b < 8 by omega) dX6_meet_29 ?_
  refine G_iload_n (pc := 30) dX6_meet_30 rfl ?_
  refine G_isub (pc := 31) dX6_meet_31 ?_
  refine B_st (pc := 32) (kk := 2) (j := b) hS rfl rfl rfl (show b < 8 by omega) dX6_meet_32 ?_
  refine G_aload_n (pc := 33) dX6_meet_33 rfl ?_
  refine B_arr (pc := 34) (a := 1400131) hS fl_X6_18_4 rfl rfl dX6_meet_34 ?_
  refine G_iload_n (pc := 37) dX6_meet_37 rfl ?_
  refine G_dup2 (pc := 38) dX6_meet_38 rfl rfl ?_
  refine B_ldv (pc := 39) (kk := 2) (j := o) (v := u2 A 121 b (A 121 b - (A 121 b + nI 1) / nI 2) 121 o) rfl hS rfl rfl rfl (show o < 8 by omega) dX6_meet_39 ?_
  refine G_iload_n (pc := 40) dX6_meet_40 rfl ?_
  refine G_iadd (pc := 41) dX6_meet_41 ?_
  refine B_st (pc := 42) (kk := 2) (j := o) hS rfl rfl rfl (show o < 8 by omega) dX6_meet_42 ?_
  refine G_aload_n (pc := 43) dX6_meet_43 rfl ?_
  refine G_dup (pc := 44) dX6_meet_44 rfl ?_
  refine B_getv (pc := 45) (kk := 4) (v := A 23 0) rfl hS fl_X6_25_4 (by decide) dX6_meet_45 ?_
  refine G_iconst (pc := 48) (v := nI 1) dX6_meet_48 (by first | rfl | decide) ?_
  refine G_iadd (pc := 49) dX6_meet_49 ?_
  refine B_put (pc := 50) (kk := 4) hS fl_X6_25_4 fw_4_4 (by decide) dX6_meet_50 ?_
  refine G_iload_n (pc := 53) dX6_meet_53 rfl ?_
  refine G_if_neN (pc := 54) (tgt := 70) (by omega) dX6_meet_54 (by decide) (fun c54 => ?_) (fun c54 => ?_)
  · skip
    have e : (if b = 0 ∧ A 22 0 = -1 then nI o else A 22 0) = A 22 0 := if_neg (fun g => c54 g.1)
    refine G_vret (pc := 70) VZ.n dX6_meet_70 rfl ⟨by decide, by decide⟩ ?_
    unfold cMeet
    rw [e]
    refine ⟨rfl, ?_⟩
    first
      | rfl
      | exact congrArg (wB 4 400010 1400010 Y) (u2_id rfl).symm
  · skip
    refine G_aload_n (pc := 57) dX6_meet_57 rfl ?_
    refine B_getv (pc := 58) (kk := 5) (v := A 22 0) rfl hS fl_X6_29_4 (by decide) dX6_meet_58 ?_
    refine G_iconst (pc := 61) (v := -1) dX6_meet_61 (by first | rfl | decide) ?_
    refine G_icmp_ne (pc := 62) (tgt := 70) dX6_meet_62 (by decide) (fun c62 => ?_) (fun c62 => ?_)
    · skip
      have e : (if b = 0 ∧ A 22 0 = -1 then nI o else A 22 0) = A 22 0 := if_neg (fun g => c62 g.2)
      refine G_vret (pc := 70) VZ.n dX6_meet_70 rfl ⟨by decide, by decide⟩ ?_
      unfold cMeet
      rw [e]
      refine ⟨rfl, ?_⟩
      first
        | rfl
        | exact congrArg (wB 4 400010 1400010 Y) (u2_id rfl).symm
    · skip
      have e : (if b = 0 ∧ A 22 0 = -1 then nI o else A 22 0) = nI o := if_pos ⟨c54, c62⟩
      refine G_aload_n (pc := 65) dX6_meet_65 rfl ?_
      refine G_iload_n (pc := 66) dX6_meet_66 rfl ?_
      refine B_put (pc := 67) (kk := 5) hS fl_X6_29_4 fw_4_5 (by decide) dX6_meet_67 ?_
      refine G_vret (pc := 70) VZ.n dX6_meet_70 rfl ⟨by decide, by decide⟩ ?_
      unfold cMeet
      rw [e]
      refine ⟨rfl, ?_⟩
      first
        | rfl
        | exact congrArg (wB 4 400010 1400010 Y) (u2_id rfl).symm
theorem C_roll41 {Γ : GTy} {Y : HS} (hS : RS 4 400010 1400010 Y) (A : FT) (hG : GS Γ) {b x y : Nat} (hb : b < 8) (hx : A 119 b = nI x) (x1 : x < 128) (y1 : y < 128) (hp : pkN y) : Tn Γ M_X6_roll [.ref 400010, .int (nI b), .int (nI y)] (wB 4 400010 1400010 Y A) (rt none (wB 4 400010 1400010 Y (cMove 4 A b x y))) := by
  refine Tn_of' rfl rfl rfl ?_
  show G Γ M_X6_roll (rm M_X6_roll) (Vn Γ M_X6_roll (rt none (wB 4 400010 1400010 Y (cMove 4 A b x y)))) (0, 0) 0 [some (.ref 400010), some (.int (nI b)), some (.int (nI y)), none] [] (wB 4 400010 1400010 Y A)
  refine G_aload_n (pc := 0) dX6_roll_0 rfl ?_
  refine B_arr (pc := 1) (a := 1400129) hS fl_X6_9_4 rfl rfl dX6_roll_1 ?_
  refine G_iload_n (pc := 4) dX6_roll_4 rfl ?_
  refine B_ldv (pc := 5) (kk := 0) (j := b) (v := nI x) hx hS rfl rfl rfl (show b < 8 by omega) dX6_roll_5 ?_
  refine G_istore_n (pc := 6) dX6_roll_6 (by decide) ?_
  refine G_aload_n (pc := 7) dX6_roll_7 rfl ?_
  refine B_arr (pc := 8) (a := 1400131) hS fl_X6_18_4 rfl rfl dX6_roll_8 ?_
  refine G_iload_n (pc := 11) dX6_roll_11 rfl ?_
  refine G_dup2 (pc := 12) dX6_roll_12 rfl rfl ?_
  refine B_ldv (pc := 13) (kk := 2) (j := b) (v := A 121 b) rfl hS rfl rfl rfl (show b < 8 by omega) dX6_roll_13 ?_
  refine G_iconst (pc := 14) (v := nI 1) dX6_roll_14 (by first | rfl | decide) ?_
  refine G_isub (pc := 15) dX6_roll_15 ?_
  refine B_st (pc := 16) (kk := 2) (j := b) hS rfl rfl rfl (show b < 8 by omega) dX6_roll_16 ?_
  refine G_aload_n (pc := 17) dX6_roll_17 rfl ?_
  refine B_arr (pc := 18) (a := 1400132) hS fl_X6_21_4 rfl rfl dX6_roll_18 ?_
  refine G_iload_n (pc := 21) dX6_roll_21 rfl ?_
  refine G_iload_n (pc := 22) dX6_roll_22 rfl ?_
  refine K_NS1r (pc := 23) (k' := (0, 0)) mok_X9_isPocket lk_X6_64 rfl (aok0 rfl) dX6_roll_23 (C_pocketC hG y1 _) rfl ?_
  refine B_bst (pc := 26) (kk := 3) (j := b) hS rfl rfl rfl (show b < 8 by omega) (b2_or _) dX6_roll_26 ?_
  refine G_aload_n (pc := 27) dX6_roll_27 rfl ?_
  refine B_arr (pc := 28) (a := 1400129) hS fl_X6_9_4 rfl rfl dX6_roll_28 ?_
  refine G_iload_n (pc := 31) dX6_roll_31 rfl ?_
  refine G_aload_n (pc := 32) dX6_roll_32 rfl ?_
  refine B_arr (pc := 33) (a := 1400132) hS fl_X6_21_4 rfl rfl dX6_roll_33 ?_
  refine G_iload_n (pc := 36) dX6_roll_36 rfl ?_
  refine B_bldv (pc := 37) (kk := 3) (j := b) (v := b2 (pkN y)) u2_e hS rfl rfl rfl (show b < 8 by omega) dX6_roll_37 ?_
  refine G_if_eqB (pc := 38) (tgt := 45) dX6_roll_38 (by decide) (fun c38 => ?_) (fun c38 => ?_)
  · exact absurd hp c38
  · skip
    refine G_iconst (pc := 41) (v := -1) dX6_roll_41 (by first | rfl | decide) ?_
    refine G_goto (pc := 42) (tgt := 46) dX6_roll_42 (by decide) ?_
    refine B_st (pc := 46) (kk := 0) (j := b) hS rfl rfl rfl (show b < 8 by omega) dX6_roll_46 ?_
    refine G_aload_n (pc := 47) dX6_roll_47 rfl ?_
    refine G_iload_n (pc := 48) dX6_roll_48 rfl ?_
    refine G_iload_n (pc := 49) dX6_roll_49 rfl ?_
    refine G_aload_n (pc := 50) dX6_roll_50 rfl ?_
    refine B_arr (pc := 51) (a := 1400129) hS fl_X6_9_4 rfl rfl dX6_roll_51 ?_
    refine G_iload_n (pc := 54) dX6_roll_54 rfl ?_
    refine B_ldv (pc := 55) (kk := 0) (j := b) (v := -1) u2_e hS rfl rfl rfl (show b < 8 by omega) dX6_roll_55 ?_
    refine K_U3v (pc := 56) (cb := 4) (k' := (0, 0)) mok_X4_note lk_X6_67_4 rfl hS.1 rfl rfl (aok0 rfl) dX6_roll_56 (C_note4 hS _ _ _ _) rfl ?_
    refine G_vret (pc := 59) VZ.n dX6_roll_59 rfl ⟨by decide, by decide⟩ ?_
    refine ⟨rfl, congrArg (wB 4 400010 1400010 Y) ?_⟩
    unfold cMove cMv
    rw [if_neg (by decide), if_pos hp]
    rfl
theorem C_roll40 {Γ : GTy} {Y : HS} (hS : RS 4 400010 1400010 Y) (A : FT) (hG : GS Γ) {b x y : Nat} (hb : b < 8) (hx : A 119 b = nI x) (x1 : x < 128) (y1 : y < 128) (hp : ¬ pkN y) : Tn Γ M_X6_roll [.ref 400010, .int (nI b), .int (nI y)] (wB 4 400010 1400010 Y A) (rt none (wB 4 400010 1400010 Y (cMove 4 A b x y))) := by
  refine Tn_of' rfl rfl rfl ?_
  show G Γ M_X6_roll (rm M_X6_roll) (Vn Γ M_X6_roll (rt none (wB 4 400010 1400010 Y (cMove 4 A b x y)))) (0, 0) 0 [some (.ref 400010), some (.int (nI b)), some (.int (nI y)), none] [] (wB 4 400010 1400010 Y A)
  refine G_aload_n (pc := 0) dX6_roll_0 rfl ?_
  refine B_arr (pc := 1) (a := 1400129) hS fl_X6_9_4 rfl rfl dX6_roll_1 ?_
  refine G_iload_n (pc := 4) dX6_roll_4 rfl ?_
  refine B_ldv (pc := 5) (kk := 0) (j := b) (v := nI x) hx hS rfl rfl rfl (show b < 8 by omega) dX6_roll_5 ?_
  refine G_istore_n (pc := 6) dX6_roll_6 (by decide) ?_
  refine G_aload_n (pc := 7) dX6_roll_7 rfl ?_
  refine B_arr (pc := 8) (a := 1400131) hS fl_X6_18_4 rfl rfl dX6_roll_8 ?_
  refine G_iload_n (pc := 11) dX6_roll_11 rfl ?_
  refine G_dup2 (pc := 12) dX6_roll_12 rfl rfl ?_
  refine B_ldv (pc := 13) (kk := 2) (j := b) (v := A 121 b) rfl hS rfl rfl rfl (show b < 8 by omega) dX6_roll_13 ?_
  refine G_iconst (pc := 14) (v := nI 1) dX6_roll_14 (by first | rfl | decide) ?_
  refine G_isub (pc := 15) dX6_roll_15 ?_
  refine B_st (pc := 16) (kk := 2) (j := b) hS rfl rfl rfl (show b < 8 by omega) dX6_roll_16 ?_
  refine G_aload_n (pc := 17) dX6_roll_17 rfl ?_
  refine B_arr (pc := 18) (a := 1400132) hS fl_X6_21_4 rfl rfl dX6_roll_18 ?_
  refine G_iload_n (pc := 21) dX6_roll_21 rfl ?_
  refine G_iload_n (pc := 22) dX6_roll_22 rfl ?_
  refine K_NS1r (pc := 23) (k' := (0, 0)) mok_X9_isPocket lk_X6_64 rfl (aok0 rfl) dX6_roll_23 (C_pocketC hG y1 _) rfl ?_
  refine B_bst (pc := 26) (kk := 3) (j := b) hS rfl rfl rfl (show b < 8 by omega) (b2_or _) dX6_roll_26 ?_
  refine G_aload_n (pc := 27) dX6_roll_27 rfl ?_
  refine B_arr (pc := 28) (a := 1400129) hS fl_X6_9_4 rfl rfl dX6_roll_28 ?_
  refine G_iload_n (pc := 31) dX6_roll_31 rfl ?_
  refine G_aload_n (pc := 32) dX6_roll_32 rfl ?_
  refine B_arr (pc := 33) (a := 1400132) hS fl_X6_21_4 rfl rfl dX6_roll_33 ?_
  refine G_iload_n (pc := 36) dX6_roll_36 rfl ?_
  refine B_bldv (pc := 37) (kk := 3) (j := b) (v := b2 (pkN y)) u2_e hS rfl rfl rfl (show b < 8 by omega) dX6_roll_37 ?_
  refine G_if_eqB (pc := 38) (tgt := 45) dX6_roll_38 (by decide) (fun c38 => ?_) (fun c38 => ?_)
  · skip
    refine G_iload_n (pc := 45) dX6_roll_45 rfl ?_
    refine B_st (pc := 46) (kk := 0) (j := b) hS rfl rfl rfl (show b < 8 by omega) dX6_roll_46 ?_
    refine G_aload_n (pc := 47) dX6_roll_47 rfl ?_
    refine G_iload_n (pc := 48) dX6_roll_48 rfl ?_
    refine G_iload_n (pc := 49) dX6_roll_49 rfl ?_
    refine G_aload_n (pc := 50) dX6_roll_50 rfl ?_
    refine B_arr (pc := 51) (a := 1400129) hS fl_X6_9_4 rfl rfl dX6_roll_51 ?_
    refine G_iload_n (pc := 54) dX6_roll_54 rfl ?_
    refine B_ldv (pc := 55) (kk := 0) (j := b) (v := nI y) u2_e hS rfl rfl rfl (show b < 8 by omega) dX6_roll_55 ?_
    refine K_U3v (pc := 56) (cb := 4) (k' := (0, 0)) mok_X4_note lk_X6_67_4 rfl hS.1 rfl rfl (aok0 rfl) dX6_roll_56 (C_note4 hS _ _ _ _) rfl ?_
    refine G_vret (pc := 59) VZ.n dX6_roll_59 rfl ⟨by decide, by decide⟩ ?_
    refine ⟨rfl, congrArg (wB 4 400010 1400010 Y) ?_⟩
    unfold cMove cMv
    rw [if_neg (by decide), if_neg hp]
    rfl
  · exact absurd c38 hp
theorem C_roll4 {Γ : GTy} {Y : HS} (hS : RS 4 400010 1400010 Y) (A : FT) (hG : GS Γ) {b x y : Nat} (hb : b < 8) (hx : A 119 b = nI x) (x1 : x < 128) (y1 : y < 128) : Tn Γ M_X6_roll [.ref 400010, .int (nI b), .int (nI y)] (wB 4 400010 1400010 Y A) (rt none (wB 4 400010 1400010 Y (cMove 4 A b x y))) := by
  by_cases hp : pkN y
  · exact C_roll41 hS A hG hb hx x1 y1 hp
  · exact C_roll40 hS A hG hb hx x1 y1 hp
