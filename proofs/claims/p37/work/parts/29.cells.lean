-- ===== the class: cells of a bed =====
theorem C_isColumnI {Γ : GTy} (x : Int32) (Y : HS) : Tn Γ M_X9_isColumn [.int x] Y (rt (some (.int (b2 (¬ x < 0 ∧ ¬ nI 16 ≤ x)))) Y) := by
  refine Tn_of' rfl rfl rfl ?_
  show G Γ M_X9_isColumn (rm M_X9_isColumn) (Vn Γ M_X9_isColumn (rt (some (.int (b2 (¬ x < 0 ∧ ¬ nI 16 ≤ x)))) Y)) (0, 0) 0 [some (.int x)] [] Y
  refine G_iload_n (pc := 0) dX9_isColumn_0 rfl ?_
  refine G_if_lt (pc := 1) (tgt := 14) dX9_isColumn_1 (by decide) (fun c1 => ?_) (fun c1 => ?_)
  · skip
    have e := b2_f (p := ¬ x < 0 ∧ ¬ nI 16 ≤ x) (fun h => h.1 c1)
    refine G_iconst (pc := 14) (v := nI 0) dX9_isColumn_14 (by first | rfl | decide) ?_
    refine G_zret (pc := 15) VZ.n dX9_isColumn_15 rfl (Or.inl rfl) ⟨by decide, by decide⟩ ?_
    exact ⟨congrArg (fun z => some (Value.int z)) e.symm, rfl⟩
  · skip
    refine G_iload_n (pc := 4) dX9_isColumn_4 rfl ?_
    refine G_bipush (pc := 5) (v := nI 16) dX9_isColumn_5 (by first | rfl | decide) ?_
    refine G_icmp_ge (pc := 7) (tgt := 14) dX9_isColumn_7 (by decide) (fun c7 => ?_) (fun c7 => ?_)
    · skip
      have e := b2_f (p := ¬ x < 0 ∧ ¬ nI 16 ≤ x) (fun h => h.2 c7)
      refine G_iconst (pc := 14) (v := nI 0) dX9_isColumn_14 (by first | rfl | decide) ?_
      refine G_zret (pc := 15) VZ.n dX9_isColumn_15 rfl (Or.inl rfl) ⟨by decide, by decide⟩ ?_
      exact ⟨congrArg (fun z => some (Value.int z)) e.symm, rfl⟩
    · skip
      have e := b2_t (p := ¬ x < 0 ∧ ¬ nI 16 ≤ x) ⟨c1, c7⟩
      refine G_iconst (pc := 10) (v := nI 1) dX9_isColumn_10 (by first | rfl | decide) ?_
      refine G_goto (pc := 11) (tgt := 15) dX9_isColumn_11 (by decide) ?_
      refine G_zret (pc := 15) VZ.n dX9_isColumn_15 rfl (Or.inr rfl) ⟨by decide, by decide⟩ ?_
      exact ⟨congrArg (fun z => some (Value.int z)) e.symm, rfl⟩
theorem C_isRowI {Γ : GTy} (x : Int32) (Y : HS) : Tn Γ M_X9_isRow [.int x] Y (rt (some (.int (b2 (¬ x < 0 ∧ ¬ nI 8 ≤ x)))) Y) := by
  refine Tn_of' rfl rfl rfl ?_
  show G Γ M_X9_isRow (rm M_X9_isRow) (Vn Γ M_X9_isRow (rt (some (.int (b2 (¬ x < 0 ∧ ¬ nI 8 ≤ x)))) Y)) (0, 0) 0 [some (.int x)] [] Y
  refine G_iload_n (pc := 0) dX9_isRow_0 rfl ?_
  refine G_if_lt (pc := 1) (tgt := 14) dX9_isRow_1 (by decide) (fun c1 => ?_) (fun c1 => ?_)
  · skip
    have e := b2_f (p := ¬ x < 0 ∧ ¬ nI 8 ≤ x) (fun h => h.1 c1)
    refine G_iconst (pc := 14) (v := nI 0) dX9_isRow_14 (by first | rfl | decide) ?_
    refine G_zret (pc := 15) VZ.n dX9_isRow_15 rfl (Or.inl rfl) ⟨by decide, by decide⟩ ?_
    exact ⟨congrArg (fun z => some (Value.int z)) e.symm, rfl⟩
  · skip
    refine G_iload_n (pc := 4) dX9_isRow_4 rfl ?_
    refine G_bipush (pc := 5) (v := nI 8) dX9_isRow_5 (by first | rfl | decide) ?_
    refine G_icmp_ge (pc := 7) (tgt := 14) dX9_isRow_7 (by decide) (fun c7 => ?_) (fun c7 => ?_)
    · skip
      have e := b2_f (p := ¬ x < 0 ∧ ¬ nI 8 ≤ x) (fun h => h.2 c7)
      refine G_iconst (pc := 14) (v := nI 0) dX9_isRow_14 (by first | rfl | decide) ?_
      refine G_zret (pc := 15) VZ.n dX9_isRow_15 rfl (Or.inl rfl) ⟨by decide, by decide⟩ ?_
      exact ⟨congrArg (fun z => some (Value.int z)) e.symm, rfl⟩
    · skip
      have e := b2_t (p := ¬ x < 0 ∧ ¬ nI 8 ≤ x) ⟨c1, c7⟩
      refine G_iconst (pc := 10) (v := nI 1) dX9_isRow_10 (by first | rfl | decide) ?_
      refine G_goto (pc := 11) (tgt := 15) dX9_isRow_11 (by decide) ?_
      refine G_zret (pc := 15) VZ.n dX9_isRow_15 rfl (Or.inr rfl) ⟨by decide, by decide⟩ ?_
      exact ⟨congrArg (fun z => some (Value.int z)) e.symm, rfl⟩
theorem shC {k n : Nat} (hk : k < 100) (hn : n < 100) : (¬ nI k - nI 1 < 0 ∧ ¬ nI n ≤ nI k - nI 1) ↔ (1 ≤ k ∧ k ≤ n) := by
  rcases k with _ | k
  · exact ⟨fun h => absurd (by decide) h.1, fun h => absurd h.1 (by omega)⟩
  · rw [pk_sub (by omega), Nat.add_sub_cancel]
    refine ⟨fun h => ⟨by omega, ?_⟩, fun h => ⟨nI_pos (by omega), fun g => ?_⟩⟩
    · have h2 := h.2
      rw [nI_leI (by omega) (by omega)] at h2
      omega
    · have := (nI_leI (by omega) (by omega)).mp g
      omega
theorem C_isColumn {Γ : GTy} {k : Nat} (hk : k < 100) (Y : HS) : Tn Γ M_X9_isColumn [.int (nI k - nI 1)] Y (rt (some (.int (b2 (1 ≤ k ∧ k ≤ 16)))) Y) := by
  have h9 := C_isColumnI (Γ := Γ) (nI k - nI 1) Y
  rw [b2_eq (shC hk (by omega))] at h9
  exact h9
theorem C_isRow {Γ : GTy} {k : Nat} (hk : k < 100) (Y : HS) : Tn Γ M_X9_isRow [.int (nI k - nI 1)] Y (rt (some (.int (b2 (1 ≤ k ∧ k ≤ 8)))) Y) := by
  have h9 := C_isRowI (Γ := Γ) (nI k - nI 1) Y
  rw [b2_eq (shC hk (by omega))] at h9
  exact h9
theorem C_pocketC {Γ : GTy} (hG : GS Γ) {c : Nat} (hc : c < 128) (Y : HS) : Tn Γ M_X9_isPocket [.int (nI c)] Y (rt (some (.int (b2 (pkN c)))) Y) := by
  refine Tn_of' rfl rfl rfl ?_
  show G Γ M_X9_isPocket (rm M_X9_isPocket) (Vn Γ M_X9_isPocket (rt (some (.int (b2 (pkN c)))) Y)) (0, 0) 0 [some (.int (nI c)), none, none, none, none] [] Y
  have loop : ∀ (n9 j : Nat) (v4 : Option Value), j + n9 = 6 → (∀ i, i < j → ¬ pkA i = c) → G Γ M_X9_isPocket (rm M_X9_isPocket) (Vn Γ M_X9_isPocket (rt (some (.int (b2 (pkN c)))) Y)) (0, 0) 9 [some (.int (nI c)), some (.ref (sid 1)), some (.int (nI 6)), some (.int (nI j)), v4] [] Y := by
    intro n9
    induction n9 with
    | zero =>
      intro j v4 hj hq
      obtain rfl : j = 6 := by omega
      refine G_iload_n (pc := 9) dX9_isPocket_9 rfl ?_
      refine G_iload_n (pc := 10) dX9_isPocket_10 rfl ?_
      refine G_icmp_geN (pc := 11) (tgt := 33) (by omega) (by omega) dX9_isPocket_11 (by decide) (fun c11 => ?_) (fun c11 => ?_)
      · skip
        refine G_iconst (pc := 33) (v := nI 0) dX9_isPocket_33 (by first | rfl | decide) ?_
        refine G_zret (pc := 34) VZ.n dX9_isPocket_34 rfl (Or.inl rfl) ⟨by decide, by decide⟩ ?_
        exact ⟨congrArg (fun z => some (Value.int z)) (b2_f (fun g => by obtain ⟨i, g1, g2⟩ := (pk_iff c hc).mp g; exact hq i g1 g2)).symm, rfl⟩
      · omega
    | succ n9 ih =>
      intro j v4 hj hq
      have hj9 : j < 6 := by omega
      refine G_iload_n (pc := 9) dX9_isPocket_9 rfl ?_
      refine G_iload_n (pc := 10) dX9_isPocket_10 rfl ?_
      refine G_icmp_geN (pc := 11) (tgt := 33) (by omega) (by omega) dX9_isPocket_11 (by decide) (fun c11 => ?_) (fun c11 => ?_)
      · omega
      · skip
        refine G_aload_n (pc := 14) dX9_isPocket_14 rfl ?_
        refine G_iload_n (pc := 15) dX9_isPocket_15 rfl ?_
        refine G_saldv (pc := 16) (i := 1) (j := j) (v := nI (pkA j)) (hG.2.1.2 j hj9) (by decide) rfl (by rw [hG.2.1.1]; exact hj9) (by omega) dX9_isPocket_16 ?_
        refine G_istore (pc := 17) dX9_isPocket_17 (by decide) ?_
        have q9 := pkA_lt j
        refine G_iload (pc := 19) dX9_isPocket_19 rfl ?_
        refine G_iload_n (pc := 21) dX9_isPocket_21 rfl ?_
        refine G_icmp_neN (pc := 22) (tgt := 27) (by omega) (by omega) dX9_isPocket_22 (by decide) (fun c22 => ?_) (fun c22 => ?_)
        · skip
          refine G_iincN (pc := 27) dX9_isPocket_27 rfl (by decide) ?_
          refine G_goto (pc := 30) (tgt := 9) dX9_isPocket_30 (by decide) ?_
          exact ih (j + 1) _ (by omega) (fun i hi => by by_cases e : i = j; (subst e; exact c22); exact hq i (by omega))
        · skip
          refine G_iconst (pc := 25) (v := nI 1) dX9_isPocket_25 (by first | rfl | decide) ?_
          refine G_zret (pc := 26) VZ.n dX9_isPocket_26 rfl (Or.inr rfl) ⟨by decide, by decide⟩ ?_
          exact ⟨congrArg (fun z => some (Value.int z)) (b2_t ((pk_iff c hc).mpr ⟨j, hj9, c22⟩)).symm, rfl⟩
  refine G_getst (pc := 0) (i := 1) (by decide) ls_X9_368 dX9_isPocket_0 ?_
  refine G_astore_n (pc := 3) dX9_isPocket_3 (by decide) ?_
  refine G_aload_n (pc := 4) dX9_isPocket_4 rfl ?_
  refine G_slen (pc := 5) (i := 1) (v := nI 6) (by decide) (congrArg nI hG.2.1.1) dX9_isPocket_5 ?_
  refine G_istore_n (pc := 6) dX9_isPocket_6 (by decide) ?_
  refine G_iconst (pc := 7) (v := nI 0) dX9_isPocket_7 (by first | rfl | decide) ?_
  refine G_istore_n (pc := 8) dX9_isPocket_8 (by decide) ?_
  exact loop 6 0 _ rfl (fun i hi => absurd hi (Nat.not_lt_zero i))
theorem C_cellBesideN {Γ : GTy} (hG : GS Γ) {c d : Nat} (c1 : c < 128) (d8 : d < 8) (hx : cin c d ∧ rin c d) (Y : HS) : Tn Γ M_X9_cellBeside [.int (nI c), .int (nI d)] Y (rt (some (.int (nI (nx c d)))) Y) := by
  refine Tn_of' rfl rfl rfl ?_
  show G Γ M_X9_cellBeside (rm M_X9_cellBeside) (Vn Γ M_X9_cellBeside (rt (some (.int (nI (nx c d)))) Y)) (0, 0) 0 [some (.int (nI c)), some (.int (nI d)), none, none] [] Y
  refine G_iload_n (pc := 0) dX9_cellBeside_0 rfl ?_
  refine G_if_ltN (pc := 1) (tgt := 14) (by omega) dX9_cellBeside_1 (by decide) (fun c1 => ?_) (fun c1 => ?_)
  · omega
  · skip
    refine G_iload_n (pc := 4) dX9_cellBeside_4 rfl ?_
    refine G_if_ltN (pc := 5) (tgt := 14) (by omega) dX9_cellBeside_5 (by decide) (fun c5 => ?_) (fun c5 => ?_)
    · omega
    · skip
      refine G_iload_n (pc := 8) dX9_cellBeside_8 rfl ?_
      refine G_bipush (pc := 9) (v := nI 8) dX9_cellBeside_9 (by first | rfl | decide) ?_
      refine G_icmp_ltN (pc := 11) (tgt := 16) (by omega) (by omega) dX9_cellBeside_11 (by decide) (fun c11 => ?_) (fun c11 => ?_)
      · skip
        refine G_iload_n (pc := 16) dX9_cellBeside_16 rfl ?_
        refine G_bipush (pc := 17) (v := nI 16) dX9_cellBeside_17 (by first | rfl | decide) ?_
        refine G_iremN (pc := 19) (by omega) (by omega) (by omega) dX9_cellBeside_19 ?_
        refine G_getst (pc := 20) (i := 2) (by decide) ls_X9_356 dX9_cellBeside_20 ?_
        refine G_iload_n (pc := 23) dX9_cellBeside_23 rfl ?_
        refine G_saldv (pc := 24) (i := 2) (j := d) (v := nI (ex d) - nI 1) (hG.2.2.1.2 d d8) (by decide) rfl (by rw [hG.2.2.1.1]; exact d8) (by omega) dX9_cellBeside_24 ?_
        refine G_iadd (pc := 25) dX9_cellBeside_25 ?_
        rw [shA]
        refine G_istore_n (pc := 26) dX9_cellBeside_26 (by decide) ?_
        refine G_iload_n (pc := 27) dX9_cellBeside_27 rfl ?_
        refine G_bipush (pc := 28) (v := nI 16) dX9_cellBeside_28 (by first | rfl | decide) ?_
        refine G_idivN (pc := 30) (by omega) (by omega) (by omega) dX9_cellBeside_30 ?_
        refine G_getst (pc := 31) (i := 3) (by decide) ls_X9_359 dX9_cellBeside_31 ?_
        refine G_iload_n (pc := 34) dX9_cellBeside_34 rfl ?_
        refine G_saldv (pc := 35) (i := 3) (j := d) (v := nI (ey d) - nI 1) (hG.2.2.2.2 d d8) (by decide) rfl (by rw [hG.2.2.2.1]; exact d8) (by omega) dX9_cellBeside_35 ?_
        refine G_iadd (pc := 36) dX9_cellBeside_36 ?_
        rw [shA]
        refine G_istore_n (pc := 37) dX9_cellBeside_37 (by decide) ?_
        refine G_iload_n (pc := 38) dX9_cellBeside_38 rfl ?_
        refine K_Sn1r (pc := 39) (k' := (0, 0)) mok_X9_isColumn lk_X9_362 rfl (aok0 rfl) dX9_cellBeside_39 (C_isColumn (by have := ex_le d; omega) _) rfl ?_
        refine G_if_eqB (pc := 42) (tgt := 61) dX9_cellBeside_42 (by decide) (fun c42 => ?_) (fun c42 => ?_)
        · exact absurd hx.1 c42
        · skip
          refine G_iload_n (pc := 45) dX9_cellBeside_45 rfl ?_
          refine K_Sn1r (pc := 46) (k' := (0, 0)) mok_X9_isRow lk_X9_365 rfl (aok0 rfl) dX9_cellBeside_46 (C_isRow (by have := ey_le d; omega) _) rfl ?_
          refine G_if_eqB (pc := 49) (tgt := 61) dX9_cellBeside_49 (by decide) (fun c49 => ?_) (fun c49 => ?_)
          · exact absurd hx.2 c49
          · skip
            refine G_bipush (pc := 52) (v := nI 16) dX9_cellBeside_52 (by first | rfl | decide) ?_
            refine G_iload_n (pc := 54) dX9_cellBeside_54 rfl ?_
            refine G_imul (pc := 55) dX9_cellBeside_55 ?_
            refine G_iload_n (pc := 56) dX9_cellBeside_56 rfl ?_
            refine G_iadd (pc := 57) dX9_cellBeside_57 ?_
            refine G_goto (pc := 58) (tgt := 62) dX9_cellBeside_58 (by decide) ?_
            rw [nxI hx.1 hx.2]
            refine G_iret (pc := 62) VZ.n dX9_cellBeside_62 rfl ⟨by decide, by decide⟩ ?_
            exact ⟨rfl, rfl⟩
      · omega
theorem C_cellBesideX {Γ : GTy} (hG : GS Γ) {c d : Nat} (c1 : c < 128) (d8 : d < 8) (hx : ¬ (cin c d ∧ rin c d)) (Y : HS) : Tn Γ M_X9_cellBeside [.int (nI c), .int (nI d)] Y (rt (some (.int (-1))) Y) := by
  refine Tn_of' rfl rfl rfl ?_
  show G Γ M_X9_cellBeside (rm M_X9_cellBeside) (Vn Γ M_X9_cellBeside (rt (some (.int (-1))) Y)) (0, 0) 0 [some (.int (nI c)), some (.int (nI d)), none, none] [] Y
  refine G_iload_n (pc := 0) dX9_cellBeside_0 rfl ?_
  refine G_if_ltN (pc := 1) (tgt := 14) (by omega) dX9_cellBeside_1 (by decide) (fun c1 => ?_) (fun c1 => ?_)
  · omega
  · skip
    refine G_iload_n (pc := 4) dX9_cellBeside_4 rfl ?_
    refine G_if_ltN (pc := 5) (tgt := 14) (by omega) dX9_cellBeside_5 (by decide) (fun c5 => ?_) (fun c5 => ?_)
    · omega
    · skip
      refine G_iload_n (pc := 8) dX9_cellBeside_8 rfl ?_
      refine G_bipush (pc := 9) (v := nI 8) dX9_cellBeside_9 (by first | rfl | decide) ?_
      refine G_icmp_ltN (pc := 11) (tgt := 16) (by omega) (by omega) dX9_cellBeside_11 (by decide) (fun c11 => ?_) (fun c11 => ?_)
      · skip
        refine G_iload_n (pc := 16) dX9_cellBeside_16 rfl ?_
        refine G_bipush (pc := 17) (v := nI 16) dX9_cellBeside_17 (by first | rfl | decide) ?_
        refine G_iremN (pc := 19) (by omega) (by omega) (by omega) dX9_cellBeside_19 ?_
        refine G_getst (pc := 20) (i := 2) (by decide) ls_X9_356 dX9_cellBeside_20 ?_
        refine G_iload_n (pc := 23) dX9_cellBeside_23 rfl ?_
        refine G_saldv (pc := 24) (i := 2) (j := d) (v := nI (ex d) - nI 1) (hG.2.2.1.2 d d8) (by decide) rfl (by rw [hG.2.2.1.1]; exact d8) (by omega) dX9_cellBeside_24 ?_
        refine G_iadd (pc := 25) dX9_cellBeside_25 ?_
        rw [shA]
        refine G_istore_n (pc := 26) dX9_cellBeside_26 (by decide) ?_
        refine G_iload_n (pc := 27) dX9_cellBeside_27 rfl ?_
        refine G_bipush (pc := 28) (v := nI 16) dX9_cellBeside_28 (by first | rfl | decide) ?_
        refine G_idivN (pc := 30) (by omega) (by omega) (by omega) dX9_cellBeside_30 ?_
        refine G_getst (pc := 31) (i := 3) (by decide) ls_X9_359 dX9_cellBeside_31 ?_
        refine G_iload_n (pc := 34) dX9_cellBeside_34 rfl ?_
        refine G_saldv (pc := 35) (i := 3) (j := d) (v := nI (ey d) - nI 1) (hG.2.2.2.2 d d8) (by decide) rfl (by rw [hG.2.2.2.1]; exact d8) (by omega) dX9_cellBeside_35 ?_
        refine G_iadd (pc := 36) dX9_cellBeside_36 ?_
        rw [shA]
        refine G_istore_n (pc := 37) dX9_cellBeside_37 (by decide) ?_
        refine G_iload_n (pc := 38) dX9_cellBeside_38 rfl ?_
        refine K_Sn1r (pc := 39) (k' := (0, 0)) mok_X9_isColumn lk_X9_362 rfl (aok0 rfl) dX9_cellBeside_39 (C_isColumn (by have := ex_le d; omega) _) rfl ?_
        refine G_if_eqB (pc := 42) (tgt := 61) dX9_cellBeside_42 (by decide) (fun c42 => ?_) (fun c42 => ?_)
        · skip
          refine G_iconst (pc := 61) (v := -1) dX9_cellBeside_61 (by first | rfl | decide) ?_
          refine G_iret (pc := 62) VZ.n dX9_cellBeside_62 rfl ⟨by decide, by decide⟩ ?_
          exact ⟨rfl, rfl⟩
        · skip
          refine G_iload_n (pc := 45) dX9_cellBeside_45 rfl ?_
          refine K_Sn1r (pc := 46) (k' := (0, 0)) mok_X9_isRow lk_X9_365 rfl (aok0 rfl) dX9_cellBeside_46 (C_isRow (by have := ey_le d; omega) _) rfl ?_
          refine G_if_eqB (pc := 49) (tgt := 61) dX9_cellBeside_49 (by decide) (fun c49 => ?_) (fun c49 => ?_)
          · skip
            refine G_iconst (pc := 61) (v := -1) dX9_cellBeside_61 (by first | rfl | decide) ?_
            refine G_iret (pc := 62) VZ.n dX9_cellBeside_62 rfl ⟨by decide, by decide⟩ ?_
            exact ⟨rfl, rfl⟩
          · exact absurd ⟨c42, c49⟩ hx
      · omega
theorem C_turnedBack {Γ : GTy} (hG : GS Γ) {c d : Nat} (c1 : c < 128) (d8 : d < 8) (Y : HS) : Tn Γ M_X9_turnedBack [.int (nI c), .int (nI d)] Y (rt (some (.int (nI (bnc c d)))) Y) := by
  refine Tn_of' rfl rfl rfl ?_
  show G Γ M_X9_turnedBack (rm M_X9_turnedBack) (Vn Γ M_X9_turnedBack (rt (some (.int (nI (bnc c d)))) Y)) (0, 0) 0 [some (.int (nI c)), some (.int (nI d)), none] [] Y
  refine G_iload_n (pc := 0) dX9_turnedBack_0 rfl ?_
  refine G_if_ltN (pc := 1) (tgt := 14) (by omega) dX9_turnedBack_1 (by decide) (fun c1 => ?_) (fun c1 => ?_)
  · omega
  · skip
    refine G_iload_n (pc := 4) dX9_turnedBack_4 rfl ?_
    refine G_if_ltN (pc := 5) (tgt := 14) (by omega) dX9_turnedBack_5 (by decide) (fun c5 => ?_) (fun c5 => ?_)
    · omega
    · skip
      refine G_iload_n (pc := 8) dX9_turnedBack_8 rfl ?_
      refine G_bipush (pc := 9) (v := nI 8) dX9_turnedBack_9 (by first | rfl | decide) ?_
      refine G_icmp_ltN (pc := 11) (tgt := 16) (by omega) (by omega) dX9_turnedBack_11 (by decide) (fun c11 => ?_) (fun c11 => ?_)
      · skip
        refine G_iload_n (pc := 16) dX9_turnedBack_16 rfl ?_
        refine G_istore_n (pc := 17) dX9_turnedBack_17 (by decide) ?_
        refine G_iload_n (pc := 18) dX9_turnedBack_18 rfl ?_
        refine G_bipush (pc := 19) (v := nI 16) dX9_turnedBack_19 (by first | rfl | decide) ?_
        refine G_iremN (pc := 21) (by omega) (by omega) (by omega) dX9_turnedBack_21 ?_
        refine G_getst (pc := 22) (i := 2) (by decide) ls_X9_356 dX9_turnedBack_22 ?_
        refine G_iload_n (pc := 25) dX9_turnedBack_25 rfl ?_
        refine G_saldv (pc := 26) (i := 2) (j := d) (v := nI (ex d) - nI 1) (hG.2.2.1.2 d d8) (by decide) rfl (by rw [hG.2.2.1.1]; exact d8) (by omega) dX9_turnedBack_26 ?_
        refine G_iadd (pc := 27) dX9_turnedBack_27 ?_
        rw [shA]
        refine K_Sn1r (pc := 28) (k' := (0, 0)) mok_X9_isColumn lk_X9_362 rfl (aok0 rfl) dX9_turnedBack_28 (C_isColumn (by have := ex_le d; omega) _) rfl ?_
        refine G_if_neB (pc := 31) (tgt := 42) dX9_turnedBack_31 (by decide) (fun c31 => ?_) (fun c31 => ?_)
        · skip
          refine G_iload_n (pc := 42) dX9_turnedBack_42 rfl ?_
          refine G_bipush (pc := 43) (v := nI 16) dX9_turnedBack_43 (by first | rfl | decide) ?_
          refine G_idivN (pc := 45) (by omega) (by omega) (by omega) dX9_turnedBack_45 ?_
          refine G_getst (pc := 46) (i := 3) (by decide) ls_X9_359 dX9_turnedBack_46 ?_
          refine G_iload_n (pc := 49) dX9_turnedBack_49 rfl ?_
          refine G_saldv (pc := 50) (i := 3) (j := d) (v := nI (ey d) - nI 1) (hG.2.2.2.2 d d8) (by decide) rfl (by rw [hG.2.2.2.1]; exact d8) (by omega) dX9_turnedBack_50 ?_
          refine G_iadd (pc := 51) dX9_turnedBack_51 ?_
          rw [shA]
          refine K_Sn1r (pc := 52) (k' := (0, 0)) mok_X9_isRow lk_X9_365 rfl (aok0 rfl) dX9_turnedBack_52 (C_isRow (by have := ey_le d; omega) _) rfl ?_
          refine G_if_neB (pc := 55) (tgt := 66) dX9_turnedBack_55 (by decide) (fun c55 => ?_) (fun c55 => ?_)
          · skip
            
            refine G_iload_n (pc := 66) dX9_turnedBack_66 rfl ?_
            refine G_iret (pc := 67) VZ.n dX9_turnedBack_67 rfl ⟨by decide, by decide⟩ ?_
            refine ⟨congrArg (fun z => some (Value.int z)) ?_, rfl⟩
            have e1 : bw1 c d = _ := (by first | exact if_pos c31 | exact if_neg c31)
            have e2 : bnc c d = _ := (by first | exact if_pos c55 | exact if_neg c55)
            rw [e2, e1]
            first | done | rfl
          · skip
            have w8 : (8 - d) % 8 < 8 := Nat.mod_lt _ (by decide)
            refine G_bipush (pc := 58) (v := nI 12) dX9_turnedBack_58 (by first | rfl | decide) ?_
            refine G_iload_n (pc := 60) dX9_turnedBack_60 rfl ?_
            refine G_isubN (pc := 61) (by omega) dX9_turnedBack_61 ?_
            refine G_bipush (pc := 62) (v := nI 8) dX9_turnedBack_62 (by first | rfl | decide) ?_
            refine G_iremN (pc := 64) (by omega) (by omega) (by omega) dX9_turnedBack_64 ?_
            refine G_istore_n (pc := 65) dX9_turnedBack_65 (by decide) ?_
            
            refine G_iload_n (pc := 66) dX9_turnedBack_66 rfl ?_
            refine G_iret (pc := 67) VZ.n dX9_turnedBack_67 rfl ⟨by decide, by decide⟩ ?_
            refine ⟨congrArg (fun z => some (Value.int z)) ?_, rfl⟩
            have e1 : bw1 c d = _ := (by first | exact if_pos c31 | exact if_neg c31)
            have e2 : bnc c d = _ := (by first | exact if_pos c55 | exact if_neg c55)
            rw [e2, e1]
            first | done | rfl
        · skip
          refine G_bipush (pc := 34) (v := nI 8) dX9_turnedBack_34 (by first | rfl | decide) ?_
          refine G_iload_n (pc := 36) dX9_turnedBack_36 rfl ?_
          refine G_isubN (pc := 37) (by omega) dX9_turnedBack_37 ?_
          refine G_bipush (pc := 38) (v := nI 8) dX9_turnedBack_38 (by first | rfl | decide) ?_
          refine G_iremN (pc := 40) (by omega) (by omega) (by omega) dX9_turnedBack_40 ?_
          refine G_istore_n (pc := 41) dX9_turnedBack_41 (by decide) ?_
          refine G_iload_n (pc := 42) dX9_turnedBack_42 rfl ?_
          refine G_bipush (pc := 43) (v := nI 16) dX9_turnedBack_43 (by first | rfl | decide) ?_
          refine G_idivN (pc := 45) (by omega) (by omega) (by omega) dX9_turnedBack_45 ?_
          refine G_getst (pc := 46) (i := 3) (by decide) ls_X9_359 dX9_turnedBack_46 ?_
          refine G_iload_n (pc := 49) dX9_turnedBack_49 rfl ?_
          refine G_saldv (pc := 50) (i := 3) (j := d) (v := nI (ey d) - nI 1) (hG.2.2.2.2 d d8) (by decide) rfl (by rw [hG.2.2.2.1]; exact d8) (by omega) dX9_turnedBack_50 ?_
          refine G_iadd (pc := 51) dX9_turnedBack_51 ?_
          rw [shA]
          refine K_Sn1r (pc := 52) (k' := (0, 0)) mok_X9_isRow lk_X9_365 rfl (aok0 rfl) dX9_turnedBack_52 (C_isRow (by have := ey_le d; omega) _) rfl ?_
          refine G_if_neB (pc := 55) (tgt := 66) dX9_turnedBack_55 (by decide) (fun c55 => ?_) (fun c55 => ?_)
          · skip
            
            refine G_iload_n (pc := 66) dX9_turnedBack_66 rfl ?_
            refine G_iret (pc := 67) VZ.n dX9_turnedBack_67 rfl ⟨by decide, by decide⟩ ?_
            refine ⟨congrArg (fun z => some (Value.int z)) ?_, rfl⟩
            have e1 : bw1 c d = _ := (by first | exact if_pos c31 | exact if_neg c31)
            have e2 : bnc c d = _ := (by first | exact if_pos c55 | exact if_neg c55)
            rw [e2, e1]
            first | done | rfl
          · skip
            have w8 : (8 - d) % 8 < 8 := Nat.mod_lt _ (by decide)
            refine G_bipush (pc := 58) (v := nI 12) dX9_turnedBack_58 (by first | rfl | decide) ?_
            refine G_iload_n (pc := 60) dX9_turnedBack_60 rfl ?_
            refine G_isubN (pc := 61) (by omega) dX9_turnedBack_61 ?_
            refine G_bipush (pc := 62) (v := nI 8) dX9_turnedBack_62 (by first | rfl | decide) ?_
            refine G_iremN (pc := 64) (by omega) (by omega) (by omega) dX9_turnedBack_64 ?_
            refine G_istore_n (pc := 65) dX9_turnedBack_65 (by decide) ?_
            
            refine G_iload_n (pc := 66) dX9_turnedBack_66 rfl ?_
            refine G_iret (pc := 67) VZ.n dX9_turnedBack_67 rfl ⟨by decide, by decide⟩ ?_
            refine ⟨congrArg (fun z => some (Value.int z)) ?_, rfl⟩
            have e1 : bw1 c d = _ := (by first | exact if_pos c31 | exact if_neg c31)
            have e2 : bnc c d = _ := (by first | exact if_pos c55 | exact if_neg c55)
            rw [e2, e1]
            first | done | rfl
      · omega
