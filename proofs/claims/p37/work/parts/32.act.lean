-- ===== the class: a ball's act, a whole roll =====
theorem i_am {x : Int32} : x + nI 1 - nI 1 = x := Int32.add_sub_cancel x (nI 1)
theorem dfI {a b e : Nat} (ha : a < 100) (hb : b < 100) (he : e < 100) : nI a - nI b = nI e - nI 1 ↔ a + 1 = b + e := by
  constructor
  · intro h
    have h2 : nI a + nI 1 = nI b + nI e := by
      have h3 : nI a - nI b + (nI b + nI 1) = nI e - nI 1 + (nI b + nI 1) := congrArg (fun z => z + (nI b + nI 1)) h
      rw [show nI a - nI b + (nI b + nI 1) = nI a + nI 1 by rw [← Int32.add_assoc, Int32.sub_add_cancel], show nI e - nI 1 + (nI b + nI 1) = nI b + nI e by rw [Int32.add_comm (nI b) (nI 1), ← Int32.add_assoc, Int32.sub_add_cancel, Int32.add_comm]] at h3
      exact h3
    rw [nI_add, nI_add] at h2
    exact (nI_eq (by omega) (by omega)).mp h2
  · intro h
    have h2 : nI a + nI 1 = nI b + nI e := by rw [nI_add, nI_add, h]
    have h3 : nI a + nI 1 - nI b - nI 1 = nI b + nI e - nI b - nI 1 := congrArg (fun z => z - nI b - nI 1) h2
    rw [show nI a + nI 1 - nI b - nI 1 = nI a - nI b by rw [Int32.sub_eq_add_neg, Int32.sub_eq_add_neg, Int32.add_assoc, Int32.add_assoc, Int32.add_comm (-nI b) (-nI 1), ← Int32.add_assoc (nI 1), Int32.add_right_neg, Int32.zero_add, ← Int32.sub_eq_add_neg], show nI b + nI e - nI b - nI 1 = nI e - nI 1 by rw [Int32.add_comm (nI b) (nI e), Int32.add_sub_cancel]] at h3
    exact h3
theorem nx_iff {x c d : Nat} (h : cin c d) (g : rin c d) : x = nx c d ↔ (x % 16 + 1 = c % 16 + ex d ∧ x / 16 + 1 = c / 16 + ey d) := by
  have h1 := h.1; have h2 := h.2; have g1 := g.1; have g2 := g.2
  unfold nx
  constructor <;> intro q <;> omega
theorem C_bes0 {Γ : GTy} {Y : HS} (hS : RS 0 10 1000010 Y) (A : FT) {F : FT} (hR : RB 0 A F) (hJ : JV F) (hG : GS Γ) {b c d : Nat} (hb : b < 8) (hc : F 119 b = nI c) (cC : c < 128) (hd : F 120 b = nI d) (d8 : d < 8) (hx : cin c d ∧ rin c d) : Tn Γ M_X0_ballBeside [.ref 10, .int (nI b), .int (nI d)] (wB 0 10 1000010 Y A) (rt (some (.int (mIn F (nI (nx c d))))) (wB 0 10 1000010 Y A)) := by
  refine Tn_of' rfl rfl rfl ?_
  show G Γ M_X0_ballBeside (rm M_X0_ballBeside) (Vn Γ M_X0_ballBeside (rt (some (.int (mIn F (nI (nx c d))))) (wB 0 10 1000010 Y A))) (0, 0) 0 [some (.ref 10), some (.int (nI b)), some (.int (nI d)), none] [] (wB 0 10 1000010 Y A)
  refine G_iload_n (pc := 0) dX0_ballBeside_0 rfl ?_
  refine G_if_ltN (pc := 1) (tgt := 10) (by omega) dX0_ballBeside_1 (by decide) (fun c1 => ?_) (fun c1 => ?_)
  · omega
  · skip
    refine G_iload_n (pc := 4) dX0_ballBeside_4 rfl ?_
    refine G_bipush (pc := 5) (v := nI 8) dX0_ballBeside_5 (by first | rfl | decide) ?_
    refine G_icmp_ltN (pc := 7) (tgt := 12) (by omega) (by omega) dX0_ballBeside_7 (by decide) (fun c7 => ?_) (fun c7 => ?_)
    · skip
      refine G_aload_n (pc := 12) dX0_ballBeside_12 rfl ?_
      refine B_arr (pc := 13) (a := 1000129) hS fl_X0_15 rfl rfl dX0_ballBeside_13 ?_
      refine G_iload_n (pc := 16) dX0_ballBeside_16 rfl ?_
      refine B_ldv (pc := 17) (kk := 0) (j := b) (v := nI c) ((hR.1 b hb).1.trans hc) hS rfl rfl rfl (show b < 8 by omega) dX0_ballBeside_17 ?_
      refine G_iload_n (pc := 18) dX0_ballBeside_18 rfl ?_
      refine K_NS2r (pc := 19) (k' := (0, 0)) mok_X9_cellBeside lk_X0_22 rfl (aok0 rfl) dX0_ballBeside_19 (C_cellBesideN hG cC d8 hx _) rfl ?_
      have x1 := nx_lt hx.1 hx.2
      refine G_istore_n (pc := 22) dX0_ballBeside_22 (by decide) ?_
      refine G_iload_n (pc := 23) dX0_ballBeside_23 rfl ?_
      refine G_if_ltN (pc := 24) (tgt := 47) (by omega) dX0_ballBeside_24 (by decide) (fun c24 => ?_) (fun c24 => ?_)
      · omega
      · skip
        refine G_iload_n (pc := 27) dX0_ballBeside_27 rfl ?_
        refine G_aload_n (pc := 28) dX0_ballBeside_28 rfl ?_
        refine B_arr (pc := 29) (a := 1000133) hS fl_X0_9 rfl rfl dX0_ballBeside_29 ?_
        refine B_len (pc := 32) (kk := 6) (n := 128) rfl hS rfl rfl dX0_ballBeside_32 ?_
        refine G_icmp_geN (pc := 33) (tgt := 47) (by omega) (by omega) dX0_ballBeside_33 (by decide) (fun c33 => ?_) (fun c33 => ?_)
        · omega
        · skip
          refine G_aload_n (pc := 36) dX0_ballBeside_36 rfl ?_
          refine B_arr (pc := 37) (a := 1000133) hS fl_X0_9 rfl rfl dX0_ballBeside_37 ?_
          refine G_iload_n (pc := 40) dX0_ballBeside_40 rfl ?_
          refine B_ldv (pc := 41) (kk := 6) (j := nx c d) (v := mIn F (nI (nx c d)) + nI 1) (hR.2.2.2 rfl _ x1) hS rfl rfl rfl (show nx c d < 128 by omega) dX0_ballBeside_41 ?_
          refine G_iconst (pc := 42) (v := nI 1) dX0_ballBeside_42 (by first | rfl | decide) ?_
          refine G_isub (pc := 43) dX0_ballBeside_43 ?_
          rw [i_am]
          refine G_goto (pc := 44) (tgt := 48) dX0_ballBeside_44 (by decide) ?_
          refine G_iret (pc := 48) VZ.n dX0_ballBeside_48 rfl ⟨by decide, by decide⟩ ?_
          exact ⟨rfl, rfl⟩
    · omega
theorem C_isBes {Γ : GTy} {Y : HS} (hS : RS 4 400010 1400010 Y) (A : FT) {F : FT} (hR : RB 4 A F) (hJ : JV F) (hG : GS Γ) {b c d : Nat} (hb : b < 8) (hc : F 119 b = nI c) (cC : c < 128) (hd : F 120 b = nI d) (d8 : d < 8) {o : Nat} (ho : o < 8) (hx : cin c d ∧ rin c d) : Tn Γ M_X4_isBeside [.ref 400010, .int (nI b), .int (nI o), .int (nI d)] (wB 4 400010 1400010 Y A) (rt (some (.int (b2 (F 119 o = nI (nx c d))))) (wB 4 400010 1400010 Y A)) := by
  refine Tn_of' rfl rfl rfl ?_
  show G Γ M_X4_isBeside (rm M_X4_isBeside) (Vn Γ M_X4_isBeside (rt (some (.int (b2 (F 119 o = nI (nx c d))))) (wB 4 400010 1400010 Y A))) (0, 0) 0 [some (.ref 400010), some (.int (nI b)), some (.int (nI o)), some (.int (nI d))] [] (wB 4 400010 1400010 Y A)
  refine G_iload_n (pc := 0) dX4_isBeside_0 rfl ?_
  refine G_if_ltN (pc := 1) (tgt := 48) (by omega) dX4_isBeside_1 (by decide) (fun c1 => ?_) (fun c1 => ?_)
  · omega
  · skip
    refine G_iload_n (pc := 4) dX4_isBeside_4 rfl ?_
    refine G_bipush (pc := 5) (v := nI 8) dX4_isBeside_5 (by first | rfl | decide) ?_
    refine G_icmp_geN (pc := 7) (tgt := 48) (by omega) (by omega) dX4_isBeside_7 (by decide) (fun c7 => ?_) (fun c7 => ?_)
    · omega
    · skip
      refine G_iload_n (pc := 10) dX4_isBeside_10 rfl ?_
      refine G_if_ltN (pc := 11) (tgt := 48) (by omega) dX4_isBeside_11 (by decide) (fun c11 => ?_) (fun c11 => ?_)
      · omega
      · skip
        refine G_iload_n (pc := 14) dX4_isBeside_14 rfl ?_
        refine G_bipush (pc := 15) (v := nI 8) dX4_isBeside_15 (by first | rfl | decide) ?_
        refine G_icmp_geN (pc := 17) (tgt := 48) (by omega) (by omega) dX4_isBeside_17 (by decide) (fun c17 => ?_) (fun c17 => ?_)
        · omega
        · skip
          refine G_iload_n (pc := 20) dX4_isBeside_20 rfl ?_
          refine G_if_ltN (pc := 21) (tgt := 48) (by omega) dX4_isBeside_21 (by decide) (fun c21 => ?_) (fun c21 => ?_)
          · omega
          · skip
            refine G_iload_n (pc := 24) dX4_isBeside_24 rfl ?_
            refine G_bipush (pc := 25) (v := nI 8) dX4_isBeside_25 (by first | rfl | decide) ?_
            refine G_icmp_geN (pc := 27) (tgt := 48) (by omega) (by omega) dX4_isBeside_27 (by decide) (fun c27 => ?_) (fun c27 => ?_)
            · omega
            · skip
              refine G_aload_n (pc := 30) dX4_isBeside_30 rfl ?_
              refine B_arr (pc := 31) (a := 1400129) hS fl_X4_15 rfl rfl dX4_isBeside_31 ?_
              refine G_iload_n (pc := 34) dX4_isBeside_34 rfl ?_
              refine B_ldv (pc := 35) (kk := 0) (j := b) (v := nI c) ((hR.1 b hb).1.trans hc) hS rfl rfl rfl (show b < 8 by omega) dX4_isBeside_35 ?_
              refine G_if_ltN (pc := 36) (tgt := 48) (by omega) dX4_isBeside_36 (by decide) (fun c36 => ?_) (fun c36 => ?_)
              · omega
              · skip
                refine G_aload_n (pc := 39) dX4_isBeside_39 rfl ?_
                refine B_arr (pc := 40) (a := 1400129) hS fl_X4_15 rfl rfl dX4_isBeside_40 ?_
                refine G_iload_n (pc := 43) dX4_isBeside_43 rfl ?_
                refine B_ldv (pc := 44) (kk := 0) (j := o) (v := F 119 o) ((hR.1 o ho).1) hS rfl rfl rfl (show o < 8 by omega) dX4_isBeside_44 ?_
                by_cases h9 : F 119 o = -1
                · refine G_if_ge (pc := 45) (tgt := 50) dX4_isBeside_45 (by decide) (fun g => absurd g (by rw [h9]; decide)) (fun _ => ?_)
                  refine G_iconst (pc := 48) (v := nI 0) dX4_isBeside_48 (by first | rfl | decide) ?_
                  refine G_zret (pc := 49) VZ.n dX4_isBeside_49 rfl (Or.inl rfl) ⟨by decide, by decide⟩ ?_
                  exact ⟨congrArg (fun z => some (Value.int z)) (b2_f (p := F 119 o = nI (nx c d)) (by rw [h9]; exact fun e => nI_nm1 (by have := nx_lt hx.1 hx.2; omega) e.symm)).symm, rfl⟩
                · obtain ⟨x, x1, hx9⟩ := hJ.1.nn ho h9
                  refine G_if_ge (pc := 45) (tgt := 50) dX4_isBeside_45 (by decide) (fun _ => ?_) (fun g => absurd (by rw [hx9]; exact nI_pos' (by omega)) g)
                  have hq : (F 119 o = nI (nx c d)) ↔ (x % 16 + 1 = c % 16 + ex d ∧ x / 16 + 1 = c / 16 + ey d) := by
                    rw [hx9, nI_eq (by omega) (by have := nx_lt hx.1 hx.2; omega)]
                    exact nx_iff hx.1 hx.2
                  refine G_aload_n (pc := 50) dX4_isBeside_50 rfl ?_
                  refine B_arr (pc := 51) (a := 1400129) hS fl_X4_15 rfl rfl dX4_isBeside_51 ?_
                  refine G_iload_n (pc := 54) dX4_isBeside_54 rfl ?_
                  refine B_ldv (pc := 55) (kk := 0) (j := o) (v := nI x) ((hR.1 o ho).1.trans hx9) hS rfl rfl rfl (show o < 8 by omega) dX4_isBeside_55 ?_
                  refine G_bipush (pc := 56) (v := nI 16) dX4_isBeside_56 (by first | rfl | decide) ?_
                  refine G_iremN (pc := 58) (by omega) (by omega) (by omega) dX4_isBeside_58 ?_
                  refine G_aload_n (pc := 59) dX4_isBeside_59 rfl ?_
                  refine B_arr (pc := 60) (a := 1400129) hS fl_X4_15 rfl rfl dX4_isBeside_60 ?_
                  refine G_iload_n (pc := 63) dX4_isBeside_63 rfl ?_
                  refine B_ldv (pc := 64) (kk := 0) (j := b) (v := nI c) ((hR.1 b hb).1.trans hc) hS rfl rfl rfl (show b < 8 by omega) dX4_isBeside_64 ?_
                  refine G_bipush (pc := 65) (v := nI 16) dX4_isBeside_65 (by first | rfl | decide) ?_
                  refine G_iremN (pc := 67) (by omega) (by omega) (by omega) dX4_isBeside_67 ?_
                  refine G_isub (pc := 68) dX4_isBeside_68 ?_
                  refine G_getst (pc := 69) (i := 2) (by decide) ls_X4_19 dX4_isBeside_69 ?_
                  refine G_iload_n (pc := 72) dX4_isBeside_72 rfl ?_
                  refine G_saldv (pc := 73) (i := 2) (j := d) (v := nI (ex d) - nI 1) (hG.2.2.1.2 d d8) (by decide) rfl (by rw [hG.2.2.1.1]; exact d8) (by omega) dX4_isBeside_73 ?_
                  refine G_icmp_ne (pc := 74) (tgt := 108) dX4_isBeside_74 (by decide) (fun c74 => ?_) (fun c74 => ?_)
                  · skip
                    have e := b2_f (p := F 119 o = nI (nx c d)) (fun g => c74 ((dfI (by omega) (by omega) (by have := ex_le d; omega)).mpr (hq.mp g).1))
                    refine G_iconst (pc := 108) (v := nI 0) dX4_isBeside_108 (by first | rfl | decide) ?_
                    refine G_zret (pc := 109) VZ.n dX4_isBeside_109 rfl (Or.inl rfl) ⟨by decide, by decide⟩ ?_
                    exact ⟨congrArg (fun z => some (Value.int z)) e.symm, rfl⟩
                  · skip
                    refine G_aload_n (pc := 77) dX4_isBeside_77 rfl ?_
                    refine B_arr (pc := 78) (a := 1400129) hS fl_X4_15 rfl rfl dX4_isBeside_78 ?_
                    refine G_iload_n (pc := 81) dX4_isBeside_81 rfl ?_
                    refine B_ldv (pc := 82) (kk := 0) (j := o) (v := nI x) ((hR.1 o ho).1.trans hx9) hS rfl rfl rfl (show o < 8 by omega) dX4_isBeside_82 ?_
                    refine G_bipush (pc := 83) (v := nI 16) dX4_isBeside_83 (by first | rfl | decide) ?_
                    refine G_idivN (pc := 85) (by omega) (by omega) (by omega) dX4_isBeside_85 ?_
                    refine G_aload_n (pc := 86) dX4_isBeside_86 rfl ?_
                    refine B_arr (pc := 87) (a := 1400129) hS fl_X4_15 rfl rfl dX4_isBeside_87 ?_
                    refine G_iload_n (pc := 90) dX4_isBeside_90 rfl ?_
                    refine B_ldv (pc := 91) (kk := 0) (j := b) (v := nI c) ((hR.1 b hb).1.trans hc) hS rfl rfl rfl (show b < 8 by omega) dX4_isBeside_91 ?_
                    refine G_bipush (pc := 92) (v := nI 16) dX4_isBeside_92 (by first | rfl | decide) ?_
                    refine G_idivN (pc := 94) (by omega) (by omega) (by omega) dX4_isBeside_94 ?_
                    refine G_isub (pc := 95) dX4_isBeside_95 ?_
                    refine G_getst (pc := 96) (i := 3) (by decide) ls_X4_22 dX4_isBeside_96 ?_
                    refine G_iload_n (pc := 99) dX4_isBeside_99 rfl ?_
                    refine G_saldv (pc := 100) (i := 3) (j := d) (v := nI (ey d) - nI 1) (hG.2.2.2.2 d d8) (by decide) rfl (by rw [hG.2.2.2.1]; exact d8) (by omega) dX4_isBeside_100 ?_
                    refine G_icmp_ne (pc := 101) (tgt := 108) dX4_isBeside_101 (by decide) (fun c101 => ?_) (fun c101 => ?_)
                    · skip
                      have e := b2_f (p := F 119 o = nI (nx c d)) (fun g => c101 ((dfI (by omega) (by omega) (by have := ey_le d; omega)).mpr (hq.mp g).2))
                      refine G_iconst (pc := 108) (v := nI 0) dX4_isBeside_108 (by first | rfl | decide) ?_
                      refine G_zret (pc := 109) VZ.n dX4_isBeside_109 rfl (Or.inl rfl) ⟨by decide, by decide⟩ ?_
                      exact ⟨congrArg (fun z => some (Value.int z)) e.symm, rfl⟩
                    · skip
                      have e := b2_t (p := F 119 o = nI (nx c d)) (hq.mpr ⟨(dfI (by omega) (by omega) (by have := ex_le d; omega)).mp c74, (dfI (by omega) (by omega) (by have := ey_le d; omega)).mp c101⟩)
                      refine G_iconst (pc := 104) (v := nI 1) dX4_isBeside_104 (by first | rfl | decide) ?_
                      refine G_goto (pc := 105) (tgt := 109) dX4_isBeside_105 (by decide) ?_
                      refine G_zret (pc := 109) VZ.n dX4_isBeside_109 rfl (Or.inr rfl) ⟨by decide, by decide⟩ ?_
                      exact ⟨congrArg (fun z => some (Value.int z)) e.symm, rfl⟩
theorem C_bes4 {Γ : GTy} {Y : HS} (hS : RS 4 400010 1400010 Y) (A : FT) {F : FT} (hR : RB 4 A F) (hJ : JV F) (hG : GS Γ) {b c d : Nat} (hb : b < 8) (hc : F 119 b = nI c) (cC : c < 128) (hd : F 120 b = nI d) (d8 : d < 8) (hx : cin c d ∧ rin c d) : Tn Γ M_X4_ballBeside [.ref 400010, .int (nI b), .int (nI d)] (wB 4 400010 1400010 Y A) (rt (some (.int (mIn F (nI (nx c d))))) (wB 4 400010 1400010 Y A)) := by
  refine Tn_of' rfl rfl rfl ?_
  show G Γ M_X4_ballBeside (rm M_X4_ballBeside) (Vn Γ M_X4_ballBeside (rt (some (.int (mIn F (nI (nx c d))))) (wB 4 400010 1400010 Y A))) (0, 0) 0 [some (.ref 400010), some (.int (nI b)), some (.int (nI d)), none] [] (wB 4 400010 1400010 Y A)
  have x1 := nx_lt hx.1 hx.2
  have loop : ∀ (n9 j : Nat), j + n9 = 8 → (∀ i, i < j → ¬ F 119 i = nI (nx c d)) → G Γ M_X4_ballBeside (rm M_X4_ballBeside) (Vn Γ M_X4_ballBeside (rt (some (.int (mIn F (nI (nx c d))))) (wB 4 400010 1400010 Y A))) (0, 0) 2 [some (.ref 400010), some (.int (nI b)), some (.int (nI d)), some (.int (nI j))] [] (wB 4 400010 1400010 Y A) := by
    intro n9
    induction n9 with
    | zero =>
      intro j hj hq
      obtain rfl : j = 8 := by omega
      refine G_iload_n (pc := 2) dX4_ballBeside_2 rfl ?_
      refine G_bipush (pc := 3) (v := nI 8) dX4_ballBeside_3 (by first | rfl | decide) ?_
      refine G_icmp_geN (pc := 5) (tgt := 31) (by omega) (by omega) dX4_ballBeside_5 (by decide) (fun c5 => ?_) (fun c5 => ?_)
      · skip
        refine G_iconst (pc := 31) (v := -1) dX4_ballBeside_31 (by first | rfl | decide) ?_
        refine G_iret (pc := 32) VZ.n dX4_ballBeside_32 rfl ⟨by decide, by decide⟩ ?_
        exact ⟨congrArg (fun z => some (Value.int z)) (mIn_n hq).symm, rfl⟩
      · omega
    | succ n9 ih =>
      intro j hj hq
      have hj9 : j < 8 := by omega
      refine G_iload_n (pc := 2) dX4_ballBeside_2 rfl ?_
      refine G_bipush (pc := 3) (v := nI 8) dX4_ballBeside_3 (by first | rfl | decide) ?_
      refine G_icmp_geN (pc := 5) (tgt := 31) (by omega) (by omega) dX4_ballBeside_5 (by decide) (fun c5 => ?_) (fun c5 => ?_)
      · omega
      · skip
        refine G_iload_n (pc := 8) dX4_ballBeside_8 rfl ?_
        refine G_iload_n (pc := 9) dX4_ballBeside_9 rfl ?_
        refine G_icmp_eqN (pc := 10) (tgt := 25) (by omega) (by omega) dX4_ballBeside_10 (by decide) (fun c10 => ?_) (fun c10 => ?_)
        · skip
          refine G_iincN (pc := 25) dX4_ballBeside_25 rfl (by decide) ?_
          refine G_goto (pc := 28) (tgt := 2) dX4_ballBeside_28 (by decide) ?_
          refine ih (j + 1) (by omega) (fun i hi => ?_)
          by_cases e : i = j
          · subst e
            first
              | exact c20
              | (rw [c10, hc]; exact fun g => nx_ne d8 hx.1 hx.2 ((nI_eq (by omega) (by omega)).mp g).symm)
          · exact hq i (by omega)
        · skip
          refine G_aload_n (pc := 13) dX4_ballBeside_13 rfl ?_
          refine G_iload_n (pc := 14) dX4_ballBeside_14 rfl ?_
          refine G_iload_n (pc := 15) dX4_ballBeside_15 rfl ?_
          refine G_iload_n (pc := 16) dX4_ballBeside_16 rfl ?_
          refine K_Vn3r (pc := 17) (k' := (0, 0)) mok_X4_isBeside lk_X4_9 hS.1 rfl rfl rfl (aok0 rfl) dX4_ballBeside_17 (C_isBes hS A hR hJ hG hb hc cC hd d8 hj9 hx) rfl ?_
          refine G_if_eqB (pc := 20) (tgt := 25) dX4_ballBeside_20 (by decide) (fun c20 => ?_) (fun c20 => ?_)
          · skip
            refine G_iincN (pc := 25) dX4_ballBeside_25 rfl (by decide) ?_
            refine G_goto (pc := 28) (tgt := 2) dX4_ballBeside_28 (by decide) ?_
            refine ih (j + 1) (by omega) (fun i hi => ?_)
            by_cases e : i = j
            · subst e
              first
                | exact c20
                | (rw [c10, hc]; exact fun g => nx_ne d8 hx.1 hx.2 ((nI_eq (by omega) (by omega)).mp g).symm)
            · exact hq i (by omega)
          · skip
            refine G_iload_n (pc := 23) dX4_ballBeside_23 rfl ?_
            refine G_iret (pc := 24) VZ.n dX4_ballBeside_24 rfl ⟨by decide, by decide⟩ ?_
            exact ⟨congrArg (fun z => some (Value.int z)) (mIn_u hJ.2.1 hj9 (by omega) c20).symm, rfl⟩
  refine G_iconst (pc := 0) (v := nI 0) dX4_ballBeside_0 (by first | rfl | decide) ?_
  refine G_istore_n (pc := 1) dX4_ballBeside_1 (by decide) ?_
  exact loop 8 0 rfl (fun i hi => absurd hi (Nat.not_lt_zero i))
theorem C_actOut0 {Γ : GTy} {Y : HS} (hS : RS 0 10 1000010 Y) (A : FT) {F : FT} (hR : RB 0 A F) (hJ : JV F) (hG : GS Γ) {b c d : Nat} (hb : b < 8) (hc : F 119 b = nI c) (cC : c < 128) (hd : F 120 b = nI d) (d8 : d < 8) (hx : ¬ (cin c d ∧ rin c d)) : Tn Γ M_X6_act [.ref 10, .int (nI b)] (wB 0 10 1000010 Y A) (rt none (wB 0 10 1000010 Y (cOut A b c d))) := by
  refine Tn_of' rfl rfl rfl ?_
  show G Γ M_X6_act (rm M_X6_act) (Vn Γ M_X6_act (rt none (wB 0 10 1000010 Y (cOut A b c d)))) (0, 0) 0 [some (.ref 10), some (.int (nI b)), none, none] [] (wB 0 10 1000010 Y A)
  refine G_aload_n (pc := 0) dX6_act_0 rfl ?_
  refine B_arr (pc := 1) (a := 1000129) hS fl_X6_9_0 rfl rfl dX6_act_1 ?_
  refine G_iload_n (pc := 4) dX6_act_4 rfl ?_
  refine B_ldv (pc := 5) (kk := 0) (j := b) (v := nI c) ((hR.1 b hb).1.trans hc) hS rfl rfl rfl (show b < 8 by omega) dX6_act_5 ?_
  refine G_aload_n (pc := 6) dX6_act_6 rfl ?_
  refine B_arr (pc := 7) (a := 1000130) hS fl_X6_15_0 rfl rfl dX6_act_7 ?_
  refine G_iload_n (pc := 10) dX6_act_10 rfl ?_
  refine B_ldv (pc := 11) (kk := 1) (j := b) (v := nI d) ((hR.1 b hb).2.1.trans hd) hS rfl rfl rfl (show b < 8 by omega) dX6_act_11 ?_
  refine K_NS2r (pc := 12) (k' := (0, 0)) mok_X9_cellBeside lk_X6_47 rfl (aok0 rfl) dX6_act_12 (C_cellBesideX hG cC d8 hx _) rfl ?_
  refine G_istore_n (pc := 15) dX6_act_15 (by decide) ?_
  refine G_iload_n (pc := 16) dX6_act_16 rfl ?_
  refine G_iconst (pc := 17) (v := -1) dX6_act_17 (by first | rfl | decide) ?_
  refine G_icmp_ne (pc := 18) (tgt := 53) dX6_act_18 (by decide) (fun h => absurd h (by decide)) (fun _ => ?_)
  refine G_aload_n (pc := 21) dX6_act_21 rfl ?_
  refine B_arr (pc := 22) (a := 1000130) hS fl_X6_15_0 rfl rfl dX6_act_22 ?_
  refine G_iload_n (pc := 25) dX6_act_25 rfl ?_
  refine G_aload_n (pc := 26) dX6_act_26 rfl ?_
  refine B_arr (pc := 27) (a := 1000129) hS fl_X6_9_0 rfl rfl dX6_act_27 ?_
  refine G_iload_n (pc := 30) dX6_act_30 rfl ?_
  refine B_ldv (pc := 31) (kk := 0) (j := b) (v := nI c) ((hR.1 b hb).1.trans hc) hS rfl rfl rfl (show b < 8 by omega) dX6_act_31 ?_
  refine G_aload_n (pc := 32) dX6_act_32 rfl ?_
  refine B_arr (pc := 33) (a := 1000130) hS fl_X6_15_0 rfl rfl dX6_act_33 ?_
  refine G_iload_n (pc := 36) dX6_act_36 rfl ?_
  refine B_ldv (pc := 37) (kk := 1) (j := b) (v := nI d) ((hR.1 b hb).2.1.trans hd) hS rfl rfl rfl (show b < 8 by omega) dX6_act_37 ?_
  refine K_NS2r (pc := 38) (k' := (0, 0)) mok_X9_turnedBack lk_X6_51 rfl (aok0 rfl) dX6_act_38 (C_turnedBack hG cC d8 _) rfl ?_
  refine B_st (pc := 41) (kk := 1) (j := b) hS rfl rfl rfl (show b < 8 by omega) dX6_act_41 ?_
  refine G_aload_n (pc := 42) dX6_act_42 rfl ?_
  refine B_arr (pc := 43) (a := 1000131) hS fl_X6_18_0 rfl rfl dX6_act_43 ?_
  refine G_iload_n (pc := 46) dX6_act_46 rfl ?_
  refine G_dup2 (pc := 47) dX6_act_47 rfl rfl ?_
  refine B_ldv (pc := 48) (kk := 2) (j := b) (v := A 121 b) rfl hS rfl rfl rfl (show b < 8 by omega) dX6_act_48 ?_
  refine G_iconst (pc := 49) (v := nI 1) dX6_act_49 (by first | rfl | decide) ?_
  refine G_isub (pc := 50) dX6_act_50 ?_
  refine B_st (pc := 51) (kk := 2) (j := b) hS rfl rfl rfl (show b < 8 by omega) dX6_act_51 ?_
  refine G_vret (pc := 52) VZ.n dX6_act_52 rfl ⟨by decide, by decide⟩ ?_
  exact ⟨rfl, rfl⟩
theorem C_actMeet0 {Γ : GTy} {Y : HS} (hS : RS 0 10 1000010 Y) (A : FT) {F : FT} (hR : RB 0 A F) (hJ : JV F) (hG : GS Γ) {b c d : Nat} (hb : b < 8) (hc : F 119 b = nI c) (cC : c < 128) (hd : F 120 b = nI d) (d8 : d < 8) (hx : cin c d ∧ rin c d) {o : Nat} (ho : mIn F (nI (nx c d)) = nI o) (o8 : o < 8) : Tn Γ M_X6_act [.ref 10, .int (nI b)] (wB 0 10 1000010 Y A) (rt none (wB 0 10 1000010 Y (cMeet A b o d))) := by
  refine Tn_of' rfl rfl rfl ?_
  show G Γ M_X6_act (rm M_X6_act) (Vn Γ M_X6_act (rt none (wB 0 10 1000010 Y (cMeet A b o d)))) (0, 0) 0 [some (.ref 10), some (.int (nI b)), none, none] [] (wB 0 10 1000010 Y A)
  refine G_aload_n (pc := 0) dX6_act_0 rfl ?_
  refine B_arr (pc := 1) (a := 1000129) hS fl_X6_9_0 rfl rfl dX6_act_1 ?_
  refine G_iload_n (pc := 4) dX6_act_4 rfl ?_
  refine B_ldv (pc := 5) (kk := 0) (j := b) (v := nI c) ((hR.1 b hb).1.trans hc) hS rfl rfl rfl (show b < 8 by omega) dX6_act_5 ?_
  refine G_aload_n (pc := 6) dX6_act_6 rfl ?_
  refine B_arr (pc := 7) (a := 1000130) hS fl_X6_15_0 rfl rfl dX6_act_7 ?_
  refine G_iload_n (pc := 10) dX6_act_10 rfl ?_
  refine B_ldv (pc := 11) (kk := 1) (j := b) (v := nI d) ((hR.1 b hb).2.1.trans hd) hS rfl rfl rfl (show b < 8 by omega) dX6_act_11 ?_
  refine K_NS2r (pc := 12) (k' := (0, 0)) mok_X9_cellBeside lk_X6_47 rfl (aok0 rfl) dX6_act_12 (C_cellBesideN hG cC d8 hx _) rfl ?_
  have x1 := nx_lt hx.1 hx.2
  refine G_istore_n (pc := 15) dX6_act_15 (by decide) ?_
  refine G_iload_n (pc := 16) dX6_act_16 rfl ?_
  refine G_iconst (pc := 17) (v := -1) dX6_act_17 (by first | rfl | decide) ?_
  refine G_icmp_ne (pc := 18) (tgt := 53) dX6_act_18 (by decide) (fun c18 => ?_) (fun c18 => ?_)
  · skip
    refine G_aload_n (pc := 53) dX6_act_53 rfl ?_
    refine G_iload_n (pc := 54) dX6_act_54 rfl ?_
    refine G_aload_n (pc := 55) dX6_act_55 rfl ?_
    refine B_arr (pc := 56) (a := 1000130) hS fl_X6_15_0 rfl rfl dX6_act_56 ?_
    refine G_iload_n (pc := 59) dX6_act_59 rfl ?_
    refine B_ldv (pc := 60) (kk := 1) (j := b) (v := nI d) ((hR.1 b hb).2.1.trans hd) hS rfl rfl rfl (show b < 8 by omega) dX6_act_60 ?_
    refine K_U2r (pc := 61) (cb := 0) (k' := (0, 0)) mok_X0_ballBeside lk_X6_54_0 rfl hS.1 rfl rfl (aok0 rfl) dX6_act_61 (C_bes0 hS A hR hJ hG hb hc cC hd d8 hx) rfl ?_
    rw [ho]
    refine G_istore_n (pc := 64) dX6_act_64 (by decide) ?_
    refine G_iload_n (pc := 65) dX6_act_65 rfl ?_
    refine G_if_ltN (pc := 66) (tgt := 84) (by omega) dX6_act_66 (by decide) (fun c66 => ?_) (fun c66 => ?_)
    · omega
    · skip
      refine G_iload_n (pc := 69) dX6_act_69 rfl ?_
      refine G_bipush (pc := 70) (v := nI 8) dX6_act_70 (by first | rfl | decide) ?_
      refine G_icmp_geN (pc := 72) (tgt := 84) (by omega) (by omega) dX6_act_72 (by decide) (fun c72 => ?_) (fun c72 => ?_)
      · omega
      · skip
        refine G_aload_n (pc := 75) dX6_act_75 rfl ?_
        refine G_iload_n (pc := 76) dX6_act_76 rfl ?_
        refine G_iload_n (pc := 77) dX6_act_77 rfl ?_
        refine K_U2v (pc := 78) (cb := 0) (k' := (0, 0)) mok_X6_meet lk_X6_57_0 rfl hS.1 rfl rfl (aok0 rfl) dX6_act_78 (C_meet0 hS A hb o8 ((hR.1 b hb).2.1.trans hd)) rfl ?_
        refine G_goto (pc := 81) (tgt := 90) dX6_act_81 (by decide) ?_
        refine G_vret (pc := 90) VZ.n dX6_act_90 rfl ⟨by decide, by decide⟩ ?_
        exact ⟨rfl, rfl⟩
  · exact absurd c18 (nI_nm1 (by omega))
theorem C_actMove0 {Γ : GTy} {Y : HS} (hS : RS 0 10 1000010 Y) (A : FT) {F : FT} (hR : RB 0 A F) (hJ : JV F) (hG : GS Γ) {b c d : Nat} (hb : b < 8) (hc : F 119 b = nI c) (cC : c < 128) (hd : F 120 b = nI d) (d8 : d < 8) (hx : cin c d ∧ rin c d) (ho : mIn F (nI (nx c d)) = -1) : Tn Γ M_X6_act [.ref 10, .int (nI b)] (wB 0 10 1000010 Y A) (rt none (wB 0 10 1000010 Y (cMove 0 A b c (nx c d)))) := by
  refine Tn_of' rfl rfl rfl ?_
  show G Γ M_X6_act (rm M_X6_act) (Vn Γ M_X6_act (rt none (wB 0 10 1000010 Y (cMove 0 A b c (nx c d))))) (0, 0) 0 [some (.ref 10), some (.int (nI b)), none, none] [] (wB 0 10 1000010 Y A)
  refine G_aload_n (pc := 0) dX6_act_0 rfl ?_
  refine B_arr (pc := 1) (a := 1000129) hS fl_X6_9_0 rfl rfl dX6_act_1 ?_
  refine G_iload_n (pc := 4) dX6_act_4 rfl ?_
  refine B_ldv (pc := 5) (kk := 0) (j := b) (v := nI c) ((hR.1 b hb).1.trans hc) hS rfl rfl rfl (show b < 8 by omega) dX6_act_5 ?_
  refine G_aload_n (pc := 6) dX6_act_6 rfl ?_
  refine B_arr (pc := 7) (a := 1000130) hS fl_X6_15_0 rfl rfl dX6_act_7 ?_
  refine G_iload_n (pc := 10) dX6_act_10 rfl ?_
  refine B_ldv (pc := 11) (kk := 1) (j := b) (v := nI d) ((hR.1 b hb).2.1.trans hd) hS rfl rfl rfl (show b < 8 by omega) dX6_act_11 ?_
  refine K_NS2r (pc := 12) (k' := (0, 0)) mok_X9_cellBeside lk_X6_47 rfl (aok0 rfl) dX6_act_12 (C_cellBesideN hG cC d8 hx _) rfl ?_
  have x1 := nx_lt hx.1 hx.2
  refine G_istore_n (pc := 15) dX6_act_15 (by decide) ?_
  refine G_iload_n (pc := 16) dX6_act_16 rfl ?_
  refine G_iconst (pc := 17) (v := -1) dX6_act_17 (by first | rfl | decide) ?_
  refine G_icmp_ne (pc := 18) (tgt := 53) dX6_act_18 (by decide) (fun c18 => ?_) (fun c18 => ?_)
  · skip
    refine G_aload_n (pc := 53) dX6_act_53 rfl ?_
    refine G_iload_n (pc := 54) dX6_act_54 rfl ?_
    refine G_aload_n (pc := 55) dX6_act_55 rfl ?_
    refine B_arr (pc := 56) (a := 1000130) hS fl_X6_15_0 rfl rfl dX6_act_56 ?_
    refine G_iload_n (pc := 59) dX6_act_59 rfl ?_
    refine B_ldv (pc := 60) (kk := 1) (j := b) (v := nI d) ((hR.1 b hb).2.1.trans hd) hS rfl rfl rfl (show b < 8 by omega) dX6_act_60 ?_
    refine K_U2r (pc := 61) (cb := 0) (k' := (0, 0)) mok_X0_ballBeside lk_X6_54_0 rfl hS.1 rfl rfl (aok0 rfl) dX6_act_61 (C_bes0 hS A hR hJ hG hb hc cC hd d8 hx) rfl ?_
    rw [ho]
    refine G_istore_n (pc := 64) dX6_act_64 (by decide) ?_
    refine G_iload_n (pc := 65) dX6_act_65 rfl ?_
    refine G_if_lt (pc := 66) (tgt := 84) dX6_act_66 (by decide) (fun _ => ?_) (fun h => absurd h (by decide))
    refine G_aload_n (pc := 84) dX6_act_84 rfl ?_
    refine G_iload_n (pc := 85) dX6_act_85 rfl ?_
    refine G_iload_n (pc := 86) dX6_act_86 rfl ?_
    refine K_U2v (pc := 87) (cb := 0) (k' := (0, 0)) mok_X6_roll lk_X6_61_0 rfl hS.1 rfl rfl (aok0 rfl) dX6_act_87 (C_roll0 hS A hG hb ((hR.1 b hb).1.trans hc) cC x1) rfl ?_
    refine G_vret (pc := 90) VZ.n dX6_act_90 rfl ⟨by decide, by decide⟩ ?_
    exact ⟨rfl, rfl⟩
  · exact absurd c18 (nI_nm1 (by omega))
theorem C_act0 {Γ : GTy} {Y : HS} (hS : RS 0 10 1000010 Y) (A : FT) {F : FT} (hR : RB 0 A F) (hJ : JV F) (hG : GS Γ) {b c d : Nat} (hb : b < 8) (hc : F 119 b = nI c) (cC : c < 128) (hd : F 120 b = nI d) (d8 : d < 8) : Tn Γ M_X6_act [.ref 10, .int (nI b)] (wB 0 10 1000010 Y A) (rt none (wB 0 10 1000010 Y (cAct 0 A F b c d))) := by
  unfold cAct
  by_cases hx : cin c d ∧ rin c d
  · rw [if_pos hx]
    by_cases e : mIn F (nI (nx c d)) = -1
    · rw [if_pos e]
      exact C_actMove0 hS A hR hJ hG hb hc cC hd d8 hx e
    · rw [if_neg e]
      obtain ⟨o, ho, eo⟩ := mIn_nn e
      rw [eo, nI_clamp (by omega)]
      exact C_actMeet0 hS A hR hJ hG hb hc cC hd d8 hx eo ho
  · rw [if_neg hx]
    exact C_actOut0 hS A hR hJ hG hb hc cC hd d8 hx
theorem C_actOut4 {Γ : GTy} {Y : HS} (hS : RS 4 400010 1400010 Y) (A : FT) {F : FT} (hR : RB 4 A F) (hJ : JV F) (hG : GS Γ) {b c d : Nat} (hb : b < 8) (hc : F 119 b = nI c) (cC : c < 128) (hd : F 120 b = nI d) (d8 : d < 8) (hx : ¬ (cin c d ∧ rin c d)) : Tn Γ M_X6_act [.ref 400010, .int (nI b)] (wB 4 400010 1400010 Y A) (rt none (wB 4 400010 1400010 Y (cOut A b c d))) := by
  refine Tn_of' rfl rfl rfl ?_
  show G Γ M_X6_act (rm M_X6_act) (Vn Γ M_X6_act (rt none (wB 4 400010 1400010 Y (cOut A b c d)))) (0, 0) 0 [some (.ref 400010), some (.int (nI b)), none, none] [] (wB 4 400010 1400010 Y A)
  refine G_aload_n (pc := 0) dX6_act_0 rfl ?_
  refine B_arr (pc := 1) (a := 1400129) hS fl_X6_9_4 rfl rfl dX6_act_1 ?_
  refine G_iload_n (pc := 4) dX6_act_4 rfl ?_
  refine B_ldv (pc := 5) (kk := 0) (j := b) (v := nI c) ((hR.1 b hb).1.trans hc) hS rfl rfl rfl (show b < 8 by omega) dX6_act_5 ?_
  refine G_aload_n (pc := 6) dX6_act_6 rfl ?_
  refine B_arr (pc := 7) (a := 1400130) hS fl_X6_15_4 rfl rfl dX6_act_7 ?_
  refine G_iload_n (pc := 10) dX6_act_10 rfl ?_
  refine B_ldv (pc := 11) (kk := 1) (j := b) (v := nI d) ((hR.1 b hb).2.1.trans hd) hS rfl rfl rfl (show b < 8 by omega) dX6_act_11 ?_
  refine K_NS2r (pc := 12) (k' := (0, 0)) mok_X9_cellBeside lk_X6_47 rfl (aok0 rfl) dX6_act_12 (C_cellBesideX hG cC d8 hx _) rfl ?_
  refine G_istore_n (pc := 15) dX6_act_15 (by decide) ?_
  refine G_iload_n (pc := 16) dX6_act_16 rfl ?_
  refine G_iconst (pc := 17) (v := -1) dX6_act_17 (by first | rfl | decide) ?_
  refine G_icmp_ne (pc := 18) (tgt := 53) dX6_act_18 (by decide) (fun h => absurd h (by decide)) (fun _ => ?_)
  refine G_aload_n (pc := 21) dX6_act_21 rfl ?_
  refine B_arr (pc := 22) (a := 1400130) hS fl_X6_15_4 rfl rfl dX6_act_22 ?_
  refine G_iload_n (pc := 25) dX6_act_25 rfl ?_
  refine G_aload_n (pc := 26) dX6_act_26 rfl ?_
  refine B_arr (pc := 27) (a := 1400129) hS fl_X6_9_4 rfl rfl dX6_act_27 ?_
  refine G_iload_n (pc := 30) dX6_act_30 rfl ?_
  refine B_ldv (pc := 31) (kk := 0) (j := b) (v := nI c) ((hR.1 b hb).1.trans hc) hS rfl rfl rfl (show b < 8 by omega) dX6_act_31 ?_
  refine G_aload_n (pc := 32) dX6_act_32 rfl ?_
  refine B_arr (pc := 33) (a := 1400130) hS fl_X6_15_4 rfl rfl dX6_act_33 ?_
  refine G_iload_n (pc := 36) dX6_act_36 rfl ?_
  refine B_ldv (pc := 37) (kk := 1) (j := b) (v := nI d) ((hR.1 b hb).2.1.trans hd) hS rfl rfl rfl (show b < 8 by omega) dX6_act_37 ?_
  refine K_NS2r (pc := 38) (k' := (0, 0)) mok_X9_turnedBack lk_X6_51 rfl (aok0 rfl) dX6_act_38 (C_turnedBack hG cC d8 _) rfl ?_
  refine B_st (pc := 41) (kk := 1) (j := b) hS rfl rfl rfl (show b < 8 by omega) dX6_act_41 ?_
  refine G_aload_n (pc := 42) dX6_act_42 rfl ?_
  refine B_arr (pc := 43) (a := 1400131) hS fl_X6_18_4 rfl rfl dX6_act_43 ?_
  refine G_iload_n (pc := 46) dX6_act_46 rfl ?_
  refine G_dup2 (pc := 47) dX6_act_47 rfl rfl ?_
  refine B_ldv (pc := 48) (kk := 2) (j := b) (v := A 121 b) rfl hS rfl rfl rfl (show b < 8 by omega) dX6_act_48 ?_
  refine G_iconst (pc := 49) (v := nI 1) dX6_act_49 (by first | rfl | decide) ?_
  refine G_isub (pc := 50) dX6_act_50 ?_
  refine B_st (pc := 51) (kk := 2) (j := b) hS rfl rfl rfl (show b < 8 by omega) dX6_act_51 ?_
  refine G_vret (pc := 52) VZ.n dX6_act_52 rfl ⟨by decide, by decide⟩ ?_
  exact ⟨rfl, rfl⟩
theorem C_actMeet4 {Γ : GTy} {Y : HS} (hS : RS 4 400010 1400010 Y) (A : FT) {F : FT} (hR : RB 4 A F) (hJ : JV F) (hG : GS Γ) {b c d : Nat} (hb : b < 8) (hc : F 119 b = nI c) (cC : c < 128) (hd : F 120 b = nI d) (d8 : d < 8) (hx : cin c d ∧ rin c d) {o : Nat} (ho : mIn F (nI (nx c d)) = nI o) (o8 : o < 8) : Tn Γ M_X6_act [.ref 400010, .int (nI b)] (wB 4 400010 1400010 Y A) (rt none (wB 4 400010 1400010 Y (cMeet A b o d))) := by
  refine Tn_of' rfl rfl rfl ?_
  show G Γ M_X6_act (rm M_X6_act) (Vn Γ M_X6_act (rt none (wB 4 400010 1400010 Y (cMeet A b o d)))) (0, 0) 0 [some (.ref 400010), some (.int (nI b)), none, none] [] (wB 4 400010 1400010 Y A)
  refine G_aload_n (pc := 0) dX6_act_0 rfl ?_
  refine B_arr (pc := 1) (a := 1400129) hS fl_X6_9_4 rfl rfl dX6_act_1 ?_
  refine G_iload_n (pc := 4) dX6_act_4 rfl ?_
  refine B_ldv (pc := 5) (kk := 0) (j := b) (v := nI c) ((hR.1 b hb).1.trans hc) hS rfl rfl rfl (show b < 8 by omega) dX6_act_5 ?_
  refine G_aload_n (pc := 6) dX6_act_6 rfl ?_
  refine B_arr (pc := 7) (a := 1400130) hS fl_X6_15_4 rfl rfl dX6_act_7 ?_
  refine G_iload_n (pc := 10) dX6_act_10 rfl ?_
  refine B_ldv (pc := 11) (kk := 1) (j := b) (v := nI d) ((hR.1 b hb).2.1.trans hd) hS rfl rfl rfl (show b < 8 by omega) dX6_act_11 ?_
  refine K_NS2r (pc := 12) (k' := (0, 0)) mok_X9_cellBeside lk_X6_47 rfl (aok0 rfl) dX6_act_12 (C_cellBesideN hG cC d8 hx _) rfl ?_
  have x1 := nx_lt hx.1 hx.2
  refine G_istore_n (pc := 15) dX6_act_15 (by decide) ?_
  refine G_iload_n (pc := 16) dX6_act_16 rfl ?_
  refine G_iconst (pc := 17) (v := -1) dX6_act_17 (by first | rfl | decide) ?_
  refine G_icmp_ne (pc := 18) (tgt := 53) dX6_act_18 (by decide) (fun c18 => ?_) (fun c18 => ?_)
  · skip
    refine G_aload_n (pc := 53) dX6_act_53 rfl ?_
    refine G_iload_n (pc := 54) dX6_act_54 rfl ?_
    refine G_aload_n (pc := 55) dX6_act_55 rfl ?_
    refine B_arr (pc := 56) (a := 1400130) hS fl_X6_15_4 rfl rfl dX6_act_56 ?_
    refine G_iload_n (pc := 59) dX6_act_59 rfl ?_
    refine B_ldv (pc := 60) (kk := 1) (j := b) (v := nI d) ((hR.1 b hb).2.1.trans hd) hS rfl rfl rfl (show b < 8 by omega) dX6_act_60 ?_
    refine K_U2r (pc := 61) (cb := 4) (k' := (0, 0)) mok_X4_ballBeside lk_X6_54_4 rfl hS.1 rfl rfl (aok0 rfl) dX6_act_61 (C_bes4 hS A hR hJ hG hb hc cC hd d8 hx) rfl ?_
    rw [ho]
    refine G_istore_n (pc := 64) dX6_act_64 (by decide) ?_
    refine G_iload_n (pc := 65) dX6_act_65 rfl ?_
    refine G_if_ltN (pc := 66) (tgt := 84) (by omega) dX6_act_66 (by decide) (fun c66 => ?_) (fun c66 => ?_)
    · omega
    · skip
      refine G_iload_n (pc := 69) dX6_act_69 rfl ?_
      refine G_bipush (pc := 70) (v := nI 8) dX6_act_70 (by first | rfl | decide) ?_
      refine G_icmp_geN (pc := 72) (tgt := 84) (by omega) (by omega) dX6_act_72 (by decide) (fun c72 => ?_) (fun c72 => ?_)
      · omega
      · skip
        refine G_aload_n (pc := 75) dX6_act_75 rfl ?_
        refine G_iload_n (pc := 76) dX6_act_76 rfl ?_
        refine G_iload_n (pc := 77) dX6_act_77 rfl ?_
        refine K_U2v (pc := 78) (cb := 4) (k' := (0, 0)) mok_X6_meet lk_X6_57_4 rfl hS.1 rfl rfl (aok0 rfl) dX6_act_78 (C_meet4 hS A hb o8 ((hR.1 b hb).2.1.trans hd)) rfl ?_
        refine G_goto (pc := 81) (tgt := 90) dX6_act_81 (by decide) ?_
        refine G_vret (pc := 90) VZ.n dX6_act_90 rfl ⟨by decide, by decide⟩ ?_
        exact ⟨rfl, rfl⟩
  · exact absurd c18 (nI_nm1 (by omega))
theorem C_actMove4 {Γ : GTy} {Y : HS} (hS : RS 4 400010 1400010 Y) (A : FT) {F : FT} (hR : RB 4 A F) (hJ : JV F) (hG : GS Γ) {b c d : Nat} (hb : b < 8) (hc : F 119 b = nI c) (cC : c < 128) (hd : F 120 b = nI d) (d8 : d < 8) (hx : cin c d ∧ rin c d) (ho : mIn F (nI (nx c d)) = -1) : Tn Γ M_X6_act [.ref 400010, .int (nI b)] (wB 4 400010 1400010 Y A) (rt none (wB 4 400010 1400010 Y (cMove 4 A b c (nx c d)))) := by
  refine Tn_of' rfl rfl rfl ?_
  show G Γ M_X6_act (rm M_X6_act) (Vn Γ M_X6_act (rt none (wB 4 400010 1400010 Y (cMove 4 A b c (nx c d))))) (0, 0) 0 [some (.ref 400010), some (.int (nI b)), none, none] [] (wB 4 400010 1400010 Y A)
  refine G_aload_n (pc := 0) dX6_act_0 rfl ?_
  refine B_arr (pc := 1) (a := 1400129) hS fl_X6_9_4 rfl rfl dX6_act_1 ?_
  refine G_iload_n (pc := 4) dX6_act_4 rfl ?_
  refine B_ldv (pc := 5) (kk := 0) (j := b) (v := nI c) ((hR.1 b hb).1.trans hc) hS rfl rfl rfl (show b < 8 by omega) dX6_act_5 ?_
  refine G_aload_n (pc := 6) dX6_act_6 rfl ?_
  refine B_arr (pc := 7) (a := 1400130) hS fl_X6_15_4 rfl rfl dX6_act_7 ?_
  refine G_iload_n (pc := 10) dX6_act_10 rfl ?_
  refine B_ldv (pc := 11) (kk := 1) (j := b) (v := nI d) ((hR.1 b hb).2.1.trans hd) hS rfl rfl rfl (show b < 8 by omega) dX6_act_11 ?_
  refine K_NS2r (pc := 12) (k' := (0, 0)) mok_X9_cellBeside lk_X6_47 rfl (aok0 rfl) dX6_act_12 (C_cellBesideN hG cC d8 hx _) rfl ?_
  have x1 := nx_lt hx.1 hx.2
  refine G_istore_n (pc := 15) dX6_act_15 (by decide) ?_
  refine G_iload_n (pc := 16) dX6_act_16 rfl ?_
  refine G_iconst (pc := 17) (v := -1) dX6_act_17 (by first | rfl | decide) ?_
  refine G_icmp_ne (pc := 18) (tgt := 53) dX6_act_18 (by decide) (fun c18 => ?_) (fun c18 => ?_)
  · skip
    refine G_aload_n (pc := 53) dX6_act_53 rfl ?_
    refine G_iload_n (pc := 54) dX6_act_54 rfl ?_
    refine G_aload_n (pc := 55) dX6_act_55 rfl ?_
    refine B_arr (pc := 56) (a := 1400130) hS fl_X6_15_4 rfl rfl dX6_act_56 ?_
    refine G_iload_n (pc := 59) dX6_act_59 rfl ?_
    refine B_ldv (pc := 60) (kk := 1) (j := b) (v := nI d) ((hR.1 b hb).2.1.trans hd) hS rfl rfl rfl (show b < 8 by omega) dX6_act_60 ?_
    refine K_U2r (pc := 61) (cb := 4) (k' := (0, 0)) mok_X4_ballBeside lk_X6_54_4 rfl hS.1 rfl rfl (aok0 rfl) dX6_act_61 (C_bes4 hS A hR hJ hG hb hc cC hd d8 hx) rfl ?_
    rw [ho]
    refine G_istore_n (pc := 64) dX6_act_64 (by decide) ?_
    refine G_iload_n (pc := 65) dX6_act_65 rfl ?_
    refine G_if_lt (pc := 66) (tgt := 84) dX6_act_66 (by decide) (fun _ => ?_) (fun h => absurd h (by decide))
    refine G_aload_n (pc := 84) dX6_act_84 rfl ?_
    refine G_iload_n (pc := 85) dX6_act_85 rfl ?_
    refine G_iload_n (pc := 86) dX6_act_86 rfl ?_
    refine K_U2v (pc := 87) (cb := 4) (k' := (0, 0)) mok_X6_roll lk_X6_61_4 rfl hS.1 rfl rfl (aok0 rfl) dX6_act_87 (C_roll4 hS A hG hb ((hR.1 b hb).1.trans hc) cC x1) rfl ?_
    refine G_vret (pc := 90) VZ.n dX6_act_90 rfl ⟨by decide, by decide⟩ ?_
    exact ⟨rfl, rfl⟩
  · exact absurd c18 (nI_nm1 (by omega))
theorem C_act4 {Γ : GTy} {Y : HS} (hS : RS 4 400010 1400010 Y) (A : FT) {F : FT} (hR : RB 4 A F) (hJ : JV F) (hG : GS Γ) {b c d : Nat} (hb : b < 8) (hc : F 119 b = nI c) (cC : c < 128) (hd : F 120 b = nI d) (d8 : d < 8) : Tn Γ M_X6_act [.ref 400010, .int (nI b)] (wB 4 400010 1400010 Y A) (rt none (wB 4 400010 1400010 Y (cAct 4 A F b c d))) := by
  unfold cAct
  by_cases hx : cin c d ∧ rin c d
  · rw [if_pos hx]
    by_cases e : mIn F (nI (nx c d)) = -1
    · rw [if_pos e]
      exact C_actMove4 hS A hR hJ hG hb hc cC hd d8 hx e
    · rw [if_neg e]
      obtain ⟨o, ho, eo⟩ := mIn_nn e
      rw [eo, nI_clamp (by omega)]
      exact C_actMeet4 hS A hR hJ hG hb hc cC hd d8 hx eo ho
  · rw [if_neg hx]
    exact C_actOut4 hS A hR hJ hG hb hc cC hd d8 hx
