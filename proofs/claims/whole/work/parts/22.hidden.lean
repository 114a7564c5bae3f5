-- ===== the model: seen, isHidden, isOver, scores, fouls =====
def seenN (F : FT) (d : Nat) : Nat → Nat → Nat → Int32
  | 0, _, _ => -1
  | n + 1, k, r => if 1 ≤ k ∧ k ≤ 16 then (if 1 ≤ r ∧ r ≤ 8 then (if mIn F (nI (16 * (r - 1) + (k - 1))) = -1 then seenN F d n (k + ex d - 1) (r + ey d - 1) else mIn F (nI (16 * (r - 1) + (k - 1)))) else -1) else -1
def ms (d k r : Nat) : Nat := if ex d = 2 then 17 - k else if ex d = 0 then k else if ey d = 2 then 9 - r else r
theorem ms_lt {d k r : Nat} (hd : d < 8) (hk : 1 ≤ k ∧ k ≤ 16) (hr : 1 ≤ r ∧ r ≤ 8) : ms d (k + ex d - 1) (r + ey d - 1) < ms d k r := by
  obtain ⟨k1, k2⟩ := hk
  obtain ⟨r1, r2⟩ := hr
  have h : d = 0 ∨ d = 1 ∨ d = 2 ∨ d = 3 ∨ d = 4 ∨ d = 5 ∨ d = 6 ∨ d = 7 := by omega
  rcases h with rfl | rfl | rfl | rfl | rfl | rfl | rfl | rfl
  · show r + 0 - 1 < r; omega
  · show 17 - (k + 2 - 1) < 17 - k; omega
  · show 17 - (k + 2 - 1) < 17 - k; omega
  · show 17 - (k + 2 - 1) < 17 - k; omega
  · show 9 - (r + 2 - 1) < 9 - r; omega
  · show k + 0 - 1 < k; omega
  · show k + 0 - 1 < k; omega
  · show k + 0 - 1 < k; omega
theorem shN (k e : Nat) (h : 1 ≤ k) : nI k - nI 1 + (nI e - nI 1) = nI (k + e - 1) - nI 1 := by
  rw [pk_sub h, shA, show k - 1 + e = k + e - 1 by omega]
theorem xyI {k r : Nat} (hk : 1 ≤ k) (hr : 1 ≤ r) : nI 16 * (nI r - nI 1) + (nI k - nI 1) = nI (16 * (r - 1) + (k - 1)) := by
  rw [pk_sub hk, pk_sub hr, pk_mul, nI_add]
theorem C_seen {Γ : GTy} {Y : HS} (hS : MS Y) (F : FT) {c d : Nat} (hc : F 119 0 = nI c) (c1 : c < 128) (d8 : d < 8) : Tn Γ M_X10_seen [.ref 900000, .int (nI d)] (wM Y F) (rt (some (.int (seenN F d 18 (c % 16 + ex d) (c / 16 + ey d)))) (wM Y F)) := by
  refine Tn_of' rfl rfl rfl ?_
  show G Γ M_X10_seen (rm M_X10_seen) (Vn Γ M_X10_seen (rt (some (.int (seenN F d 18 (c % 16 + ex d) (c / 16 + ey d)))) (wM Y F))) (0, 0) 0 [some (.ref 900000), some (.int (nI d)), none, none, none] [] (wM Y F)
  have loop : ∀ (n9 k r : Nat), ms d k r < n9 → k < 50 → r < 50 → seenN F d n9 k r = (seenN F d 18 (c % 16 + ex d) (c / 16 + ey d)) → G Γ M_X10_seen (rm M_X10_seen) (Vn Γ M_X10_seen (rt (some (.int (seenN F d 18 (c % 16 + ex d) (c / 16 + ey d)))) (wM Y F))) (0, 0) 33 [some (.ref 900000), some (.int (nI d)), some (.int (nI k - nI 1)), some (.int (nI r - nI 1)), some (.int (-1))] [] (wM Y F) := by
    intro n9
    induction n9 with
    | zero => intro k r h; exact absurd h (Nat.not_lt_zero _)
    | succ n9 ih =>
      intro k r hm hk hr he
      refine G_iload (pc := 33) dX10_seen_33 rfl ?_
      refine G_if_ge (pc := 35) (tgt := 87) dX10_seen_35 (by decide) (fun h => absurd h (by decide)) (fun _ => ?_)
      refine G_iload_n (pc := 38) dX10_seen_38 rfl ?_
      refine G_iconst (pc := 39) (v := nI 0) dX10_seen_39 (by first | rfl | decide) ?_
      refine G_bipush (pc := 40) (v := nI 15) dX10_seen_40 (by first | rfl | decide) ?_
      refine K_Sn3r (pc := 42) (k' := (0, 0)) mok_X10_isIn lk_X10_75 rfl (aok0 rfl) dX10_seen_42 (C_isInS (by omega) (by omega) _) rfl ?_
      refine G_if_eqB (pc := 45) (tgt := 87) dX10_seen_45 (by decide) (fun c45 => ?_) (fun c45 => ?_)
      · skip
        have c45 : ¬ (1 ≤ k ∧ k ≤ 16) := c45
        have he : (if 1 ≤ k ∧ k ≤ 16 then (if 1 ≤ r ∧ r ≤ 8 then (if mIn F (nI (16 * (r - 1) + (k - 1))) = -1 then seenN F d n9 (k + ex d - 1) (r + ey d - 1) else mIn F (nI (16 * (r - 1) + (k - 1)))) else -1) else -1) = _ := he
        rw [if_neg c45] at he
        refine G_iload (pc := 87) dX10_seen_87 rfl ?_
        refine G_iret (pc := 89) VZ.n dX10_seen_89 rfl ⟨by decide, by decide⟩ ?_
        exact ⟨congrArg (fun z => some (Value.int z)) he, rfl⟩
      · skip
        have c45 : 1 ≤ k ∧ k ≤ 16 := c45
        have he : (if 1 ≤ k ∧ k ≤ 16 then (if 1 ≤ r ∧ r ≤ 8 then (if mIn F (nI (16 * (r - 1) + (k - 1))) = -1 then seenN F d n9 (k + ex d - 1) (r + ey d - 1) else mIn F (nI (16 * (r - 1) + (k - 1)))) else -1) else -1) = _ := he
        rw [if_pos c45] at he
        refine G_iload_n (pc := 48) dX10_seen_48 rfl ?_
        refine G_iconst (pc := 49) (v := nI 0) dX10_seen_49 (by first | rfl | decide) ?_
        refine G_bipush (pc := 50) (v := nI 7) dX10_seen_50 (by first | rfl | decide) ?_
        refine K_Sn3r (pc := 52) (k' := (0, 0)) mok_X10_isIn lk_X10_75 rfl (aok0 rfl) dX10_seen_52 (C_isInS (by omega) (by omega) _) rfl ?_
        refine G_if_eqB (pc := 55) (tgt := 87) dX10_seen_55 (by decide) (fun c55 => ?_) (fun c55 => ?_)
        · skip
          have c55 : ¬ (1 ≤ r ∧ r ≤ 8) := c55
          rw [if_neg c55] at he
          refine G_iload (pc := 87) dX10_seen_87 rfl ?_
          refine G_iret (pc := 89) VZ.n dX10_seen_89 rfl ⟨by decide, by decide⟩ ?_
          exact ⟨congrArg (fun z => some (Value.int z)) he, rfl⟩
        · skip
          have c55 : 1 ≤ r ∧ r ≤ 8 := c55
          rw [if_pos c55] at he
          refine G_aload_n (pc := 58) dX10_seen_58 rfl ?_
          refine G_bipush (pc := 59) (v := nI 16) dX10_seen_59 (by first | rfl | decide) ?_
          refine G_iload_n (pc := 61) dX10_seen_61 rfl ?_
          refine G_imul (pc := 62) dX10_seen_62 ?_
          refine G_iload_n (pc := 63) dX10_seen_63 rfl ?_
          refine G_iadd (pc := 64) dX10_seen_64 ?_
          rw [xyI c45.1 c55.1]
          refine K_Vn1r (pc := 65) (k' := (0, 0)) mok_X10_inCell lk_X10_119 hS.1 rfl rfl rfl (aok0 rfl) dX10_seen_65 (C_inCell hS _ _) rfl ?_
          refine G_istore (pc := 68) dX10_seen_68 (by decide) ?_
          refine G_iload_n (pc := 70) dX10_seen_70 rfl ?_
          refine G_iload_n (pc := 71) dX10_seen_71 rfl ?_
          refine K_Sn1r (pc := 72) (k' := (0, 0)) mok_X10_right lk_X10_113 rfl (aok0 rfl) dX10_seen_72 (C_right d8 _) rfl ?_
          refine G_iadd (pc := 75) dX10_seen_75 ?_
          rw [shN _ _ c45.1]
          refine G_istore_n (pc := 76) dX10_seen_76 (by decide) ?_
          refine G_iload_n (pc := 77) dX10_seen_77 rfl ?_
          refine G_iload_n (pc := 78) dX10_seen_78 rfl ?_
          refine K_Sn1r (pc := 79) (k' := (0, 0)) mok_X10_down lk_X10_116 rfl (aok0 rfl) dX10_seen_79 (C_down d8 _) rfl ?_
          refine G_iadd (pc := 82) dX10_seen_82 ?_
          rw [shN _ _ c55.1]
          refine G_istore_n (pc := 83) dX10_seen_83 (by decide) ?_
          refine G_goto (pc := 84) (tgt := 33) dX10_seen_84 (by decide) ?_
          have m1 := ms_lt d8 c45 c55
          by_cases hz : mIn F (nI (16 * (r - 1) + (k - 1))) = -1
          · rw [if_pos hz] at he
            have h9 := ih (k + ex d - 1) (r + ey d - 1) (by omega) (by have := ex_le d; omega) (by have := ey_le d; omega) he
            rw [hz]
            exact h9
          · rw [if_neg hz] at he
            obtain ⟨m9, m8, em⟩ := mIn_nn hz
            rw [em] at he ⊢
            refine G_iload (pc := 33) dX10_seen_33 rfl ?_
            refine G_if_geN (pc := 35) (tgt := 87) (by omega) dX10_seen_35 (by decide) (fun _ => ?_) (fun h => by omega)
            refine G_iload (pc := 87) dX10_seen_87 rfl ?_
            refine G_iret (pc := 89) VZ.n dX10_seen_89 rfl ⟨by decide, by decide⟩ ?_
            exact ⟨congrArg (fun z => some (Value.int z)) he, rfl⟩
  refine G_aload_n (pc := 0) dX10_seen_0 rfl ?_
  refine M_arr (pc := 1) (a := 1900119) hS fl_X10_63 rfl rfl dX10_seen_1 ?_
  refine G_iconst (pc := 4) (v := nI 0) dX10_seen_4 (by first | rfl | decide) ?_
  refine M_ldv (pc := 5) (kk := 19) (j := 0) (v := nI c) hc hS rfl rfl rfl (by decide) dX10_seen_5 ?_
  refine G_bipush (pc := 6) (v := nI 16) dX10_seen_6 (by first | rfl | decide) ?_
  refine G_iremN (pc := 8) (by omega) (by omega) (by omega) dX10_seen_8 ?_
  refine G_iload_n (pc := 9) dX10_seen_9 rfl ?_
  refine K_Sn1r (pc := 10) (k' := (0, 0)) mok_X10_right lk_X10_113 rfl (aok0 rfl) dX10_seen_10 (C_right d8 _) rfl ?_
  refine G_iadd (pc := 13) dX10_seen_13 ?_
  rw [shA]
  refine G_istore_n (pc := 14) dX10_seen_14 (by decide) ?_
  refine G_aload_n (pc := 15) dX10_seen_15 rfl ?_
  refine M_arr (pc := 16) (a := 1900119) hS fl_X10_63 rfl rfl dX10_seen_16 ?_
  refine G_iconst (pc := 19) (v := nI 0) dX10_seen_19 (by first | rfl | decide) ?_
  refine M_ldv (pc := 20) (kk := 19) (j := 0) (v := nI c) hc hS rfl rfl rfl (by decide) dX10_seen_20 ?_
  refine G_bipush (pc := 21) (v := nI 16) dX10_seen_21 (by first | rfl | decide) ?_
  refine G_idivN (pc := 23) (by omega) (by omega) (by omega) dX10_seen_23 ?_
  refine G_iload_n (pc := 24) dX10_seen_24 rfl ?_
  refine K_Sn1r (pc := 25) (k' := (0, 0)) mok_X10_down lk_X10_116 rfl (aok0 rfl) dX10_seen_25 (C_down d8 _) rfl ?_
  refine G_iadd (pc := 28) dX10_seen_28 ?_
  rw [shA]
  refine G_istore_n (pc := 29) dX10_seen_29 (by decide) ?_
  refine G_iconst (pc := 30) (v := -1) dX10_seen_30 (by first | rfl | decide) ?_
  refine G_istore (pc := 31) dX10_seen_31 (by decide) ?_
  exact loop 18 _ _ (by have := ex_le d; have := ey_le d; unfold ms; split; omega; split; omega; split <;> omega) (by have := ex_le d; omega) (by have := ey_le d; omega) rfl
def allB (p : Nat → Prop) [DecidablePred p] : Nat → Bool
  | 0 => true
  | n + 1 => allB p n && decide (p n)
theorem all_t {p : Nat → Prop} [DecidablePred p] {n : Nat} (h : p n) : b2 (allB p (n + 1) = true) = b2 (allB p n = true) &&& nI 1 := by
  rw [b2_eq (show (allB p (n + 1) = true) ↔ (allB p n = true) by simp [allB, h])]
  rcases b2_or (allB p n = true) with e | e <;> rw [e] <;> decide
theorem all_f {p : Nat → Prop} [DecidablePred p] {n : Nat} (h : ¬ p n) : b2 (allB p (n + 1) = true) = b2 (allB p n = true) &&& nI 0 := by
  rw [b2_f (show ¬ (allB p (n + 1) = true) by simp [allB, h])]
  rcases b2_or (allB p n = true) with e | e <;> rw [e] <;> decide
def seeF (F : FT) (d : Nat) : Int32 := seenN F d 18 ((F 119 0).toNatClampNeg % 16 + ex d) ((F 119 0).toNatClampNeg / 16 + ey d)
abbrev hidP (F : FT) (x : Int32) (d : Nat) : Prop := ¬ seeF F d = x
theorem C_seeF {Γ : GTy} {Y : HS} (hS : MS Y) (F : FT) {c d : Nat} (hc : F 119 0 = nI c) (c1 : c < 128) (d8 : d < 8) : Tn Γ M_X10_seen [.ref 900000, .int (nI d)] (wM Y F) (rt (some (.int (seeF F d))) (wM Y F)) := by
  unfold seeF
  rw [hc, nI_clamp (by omega)]
  exact C_seen hS F hc c1 d8
theorem C_isHidden {Γ : GTy} {Y : HS} (hS : MS Y) (F : FT) {x : Int32} {c : Nat} (hc : F 119 0 = nI c) (c1 : c < 128) : Tn Γ M_X10_isHidden [.ref 900000, .int x] (wM Y F) (rt (some (.int (b2 (allB (hidP F x) 8 = true)))) (wM Y F)) := by
  refine Tn_of' rfl rfl rfl ?_
  show G Γ M_X10_isHidden (rm M_X10_isHidden) (Vn Γ M_X10_isHidden (rt (some (.int (b2 (allB (hidP F x) 8 = true)))) (wM Y F))) (0, 0) 0 [some (.ref 900000), some (.int x), none, none] [] (wM Y F)
  have loop : ∀ (n9 j : Nat), j + n9 = 8 → G Γ M_X10_isHidden (rm M_X10_isHidden) (Vn Γ M_X10_isHidden (rt (some (.int (b2 (allB (hidP F x) 8 = true)))) (wM Y F))) (0, 0) 4 [some (.ref 900000), some (.int x), some (.int (b2 (allB (hidP F x) j = true))), some (.int (nI j))] [] (wM Y F) := by
    intro n9
    induction n9 with
    | zero =>
      intro j hj
      obtain rfl : j = 8 := by omega
      refine G_iload_n (pc := 4) dX10_isHidden_4 rfl ?_
      refine G_bipush (pc := 5) (v := nI 8) dX10_isHidden_5 (by first | rfl | decide) ?_
      refine G_icmp_geN (pc := 7) (tgt := 33) (by omega) (by omega) dX10_isHidden_7 (by decide) (fun c7 => ?_) (fun c7 => ?_)
      · skip
        refine G_iload_n (pc := 33) dX10_isHidden_33 rfl ?_
        refine G_zret (pc := 34) VZ.n dX10_isHidden_34 rfl (by first | exact Or.inl rfl | exact Or.inr rfl | exact b2_or _ | assumption) ⟨by decide, by decide⟩ ?_
        exact ⟨rfl, rfl⟩
      · omega
    | succ n9 ih =>
      intro j hj
      have hj9 : j < 8 := by omega
      refine G_iload_n (pc := 4) dX10_isHidden_4 rfl ?_
      refine G_bipush (pc := 5) (v := nI 8) dX10_isHidden_5 (by first | rfl | decide) ?_
      refine G_icmp_geN (pc := 7) (tgt := 33) (by omega) (by omega) dX10_isHidden_7 (by decide) (fun c7 => ?_) (fun c7 => ?_)
      · omega
      · skip
        refine G_iload_n (pc := 10) dX10_isHidden_10 rfl ?_
        refine G_aload_n (pc := 11) dX10_isHidden_11 rfl ?_
        refine G_iload_n (pc := 12) dX10_isHidden_12 rfl ?_
        refine K_Vn1r (pc := 13) (k' := (0, 0)) mok_X10_seen lk_X10_141 hS.1 rfl rfl rfl (aok0 rfl) dX10_isHidden_13 (C_seeF hS _ hc c1 hj9) rfl ?_
        refine G_iload_n (pc := 16) dX10_isHidden_16 rfl ?_
        refine G_icmp_eq (pc := 17) (tgt := 24) dX10_isHidden_17 (by decide) (fun c17 => ?_) (fun c17 => ?_)
        · skip
          refine G_iconst (pc := 24) (v := nI 0) dX10_isHidden_24 (by first | rfl | decide) ?_
          refine G_iand (pc := 25) dX10_isHidden_25 ?_
          refine G_istore_n (pc := 26) dX10_isHidden_26 (by decide) ?_
          refine G_iincN (pc := 27) dX10_isHidden_27 rfl (by decide) ?_
          refine G_goto (pc := 30) (tgt := 4) dX10_isHidden_30 (by decide) ?_
          have h9 := ih (j + 1) (by omega)
          first
            | (rw [all_t (p := hidP F x) c17] at h9; exact h9)
            | (rw [all_f (p := hidP F x) (fun g => g c17)] at h9; exact h9)
        · skip
          refine G_iconst (pc := 20) (v := nI 1) dX10_isHidden_20 (by first | rfl | decide) ?_
          refine G_goto (pc := 21) (tgt := 25) dX10_isHidden_21 (by decide) ?_
          refine G_iand (pc := 25) dX10_isHidden_25 ?_
          refine G_istore_n (pc := 26) dX10_isHidden_26 (by decide) ?_
          refine G_iincN (pc := 27) dX10_isHidden_27 rfl (by decide) ?_
          refine G_goto (pc := 30) (tgt := 4) dX10_isHidden_30 (by decide) ?_
          have h9 := ih (j + 1) (by omega)
          first
            | (rw [all_t (p := hidP F x) c17] at h9; exact h9)
            | (rw [all_f (p := hidP F x) (fun g => g c17)] at h9; exact h9)
  refine G_iconst (pc := 0) (v := nI 1) dX10_isHidden_0 (by first | rfl | decide) ?_
  refine G_istore_n (pc := 1) dX10_isHidden_1 (by decide) ?_
  refine G_iconst (pc := 2) (v := nI 0) dX10_isHidden_2 (by first | rfl | decide) ?_
  refine G_istore_n (pc := 3) dX10_isHidden_3 (by decide) ?_
  exact loop 8 0 rfl
