-- ===== the model: pass, lowest, what is asked =====
theorem C_pass1 {Γ : GTy} {Y : HS} (hS : MS Y) (F : FT) {x : Int32} (hx : ¬ (nI 1 ≤ x ∧ x ≤ nI 200)) : Tn Γ M_X10_pass [.ref 900000, .int x] (wM Y F) (rt (some (.int (nI 0))) (wM Y (thr F (nI 1)))) := by
  refine Tn_of' rfl rfl rfl ?_
  show G Γ M_X10_pass (rm M_X10_pass) (Vn Γ M_X10_pass (rt (some (.int (nI 0))) (wM Y (thr F (nI 1))))) (0, 0) 0 [some (.ref 900000), some (.int x), none, none, none] [] (wM Y F)
  refine G_aload_n (pc := 0) dX10_pass_0 rfl ?_
  refine G_iload_n (pc := 1) dX10_pass_1 rfl ?_
  refine G_iconst (pc := 2) (v := nI 1) dX10_pass_2 (by first | rfl | decide) ?_
  refine G_sipush (pc := 3) (v := nI 200) dX10_pass_3 (by first | rfl | decide) ?_
  refine K_Sn3r (pc := 6) (k' := (0, 0)) mok_X10_isIn lk_X10_75 rfl (aok0 rfl) dX10_pass_6 (C_isIn _ _ _ _) rfl ?_
  refine G_if_neB (pc := 9) (tgt := 16) dX10_pass_9 (by decide) (fun c9 => ?_) (fun c9 => ?_)
  · exact absurd c9 hx
  · skip
    refine G_iconst (pc := 12) (v := nI 1) dX10_pass_12 (by first | rfl | decide) ?_
    refine G_goto (pc := 13) (tgt := 33) dX10_pass_13 (by decide) ?_
    refine M_put (pc := 33) hS fl_X10_72 fw_9_25 rfl dX10_pass_33 ?_
    refine G_aload_n (pc := 36) dX10_pass_36 rfl ?_
    refine M_get (pc := 37) hS fl_X10_72 rfl dX10_pass_37 ?_
    show G _ _ _ _ _ _ _ (.int (nI 1) :: _) _
    refine G_if_leN (pc := 40) (tgt := 45) (by omega) dX10_pass_40 (by decide) (fun h => absurd h (by decide)) (fun _ => ?_)
    refine G_iconst (pc := 43) (v := nI 0) dX10_pass_43 (by first | rfl | decide) ?_
    refine G_iret (pc := 44) VZ.n dX10_pass_44 rfl ⟨by decide, by decide⟩ ?_
    exact ⟨rfl, rfl⟩
theorem C_pass2 {Γ : GTy} {Y : HS} (hS : MS Y) (F : FT) {x : Int32} (hx : nI 1 ≤ x ∧ x ≤ nI 200) (h : ¬ F 0 0 + x ≤ nI 10000) : Tn Γ M_X10_pass [.ref 900000, .int x] (wM Y F) (rt (some (.int (nI 0))) (wM Y (thr F (nI 2)))) := by
  refine Tn_of' rfl rfl rfl ?_
  show G Γ M_X10_pass (rm M_X10_pass) (Vn Γ M_X10_pass (rt (some (.int (nI 0))) (wM Y (thr F (nI 2))))) (0, 0) 0 [some (.ref 900000), some (.int x), none, none, none] [] (wM Y F)
  refine G_aload_n (pc := 0) dX10_pass_0 rfl ?_
  refine G_iload_n (pc := 1) dX10_pass_1 rfl ?_
  refine G_iconst (pc := 2) (v := nI 1) dX10_pass_2 (by first | rfl | decide) ?_
  refine G_sipush (pc := 3) (v := nI 200) dX10_pass_3 (by first | rfl | decide) ?_
  refine K_Sn3r (pc := 6) (k' := (0, 0)) mok_X10_isIn lk_X10_75 rfl (aok0 rfl) dX10_pass_6 (C_isIn _ _ _ _) rfl ?_
  refine G_if_neB (pc := 9) (tgt := 16) dX10_pass_9 (by decide) (fun c9 => ?_) (fun c9 => ?_)
  · skip
    refine G_aload_n (pc := 16) dX10_pass_16 rfl ?_
    refine M_getv (pc := 17) (kk := 0) (v := F 0 0) rfl hS fl_X10_100 rfl dX10_pass_17 ?_
    refine G_iload_n (pc := 20) dX10_pass_20 rfl ?_
    refine G_iadd (pc := 21) dX10_pass_21 ?_
    refine G_sipush (pc := 22) (v := nI 10000) dX10_pass_22 (by first | rfl | decide) ?_
    refine G_icmp_le (pc := 25) (tgt := 32) dX10_pass_25 (by decide) (fun c25 => ?_) (fun c25 => ?_)
    · exact absurd c25 h
    · skip
      refine G_iconst (pc := 28) (v := nI 2) dX10_pass_28 (by first | rfl | decide) ?_
      refine G_goto (pc := 29) (tgt := 33) dX10_pass_29 (by decide) ?_
      refine M_put (pc := 33) hS fl_X10_72 fw_9_25 rfl dX10_pass_33 ?_
      refine G_aload_n (pc := 36) dX10_pass_36 rfl ?_
      refine M_get (pc := 37) hS fl_X10_72 rfl dX10_pass_37 ?_
      show G _ _ _ _ _ _ _ (.int (nI 2) :: _) _
      refine G_if_leN (pc := 40) (tgt := 45) (by omega) dX10_pass_40 (by decide) (fun h => absurd h (by decide)) (fun _ => ?_)
      refine G_iconst (pc := 43) (v := nI 0) dX10_pass_43 (by first | rfl | decide) ?_
      refine G_iret (pc := 44) VZ.n dX10_pass_44 rfl ⟨by decide, by decide⟩ ?_
      exact ⟨rfl, rfl⟩
  · exact absurd hx c9
/-- which tables count -/
abbrev cnT (F : FT) (hs : Nat → Nat) (k : Nat) : Prop := ¬ F 103 k ≤ 0 ∧ (hs k = 0 ∨ F 112 (hs k - 1) = 0)
/-- the clocks of the first i tables go on -/
def pF (F : FT) (hs : Nat → Nat) (x : Int32) (i : Nat) : FT := fun s j => if s = 105 ∧ j < i ∧ cnT F hs j then F s j + x else F s j
theorem pF_0 (F : FT) (hs : Nat → Nat) (x : Int32) : pF F hs x 0 = F := by
  funext s j
  exact if_neg (fun h => by omega)
theorem pF_o {F : FT} {hs : Nat → Nat} {x : Int32} {i s j : Nat} (h : s ≠ 105 ∨ i ≤ j) : pF F hs x i s j = F s j := if_neg (fun g => by omega)
theorem pF_t {F : FT} {hs : Nat → Nat} {x : Int32} {i : Nat} (h : cnT F hs i) : u2 (pF F hs x i) 105 i (F 105 i + x) = pF F hs x (i + 1) := by
  funext s j
  simp only [u2, pF]
  by_cases e : s = 105 ∧ j = i
  · obtain ⟨rfl, rfl⟩ := e
    rw [if_pos ⟨rfl, rfl⟩, if_pos ⟨rfl, Nat.lt_succ_self _, h⟩]
  · rw [if_neg e]
    by_cases g : s = 105 ∧ j < i ∧ cnT F hs j
    · rw [if_pos g, if_pos ⟨g.1, Nat.lt_succ_of_lt g.2.1, g.2.2⟩]
    · rw [if_neg g, if_neg (fun q => g ⟨q.1, by have := q.2.1; by_cases e2 : j = i; exact absurd ⟨q.1, e2⟩ e; omega, q.2.2⟩)]
theorem pF_f {F : FT} {hs : Nat → Nat} {x : Int32} {i : Nat} (h : ¬ cnT F hs i) : u2 (pF F hs x i) 105 i (F 105 i + nI 0) = pF F hs x (i + 1) := by
  funext s j
  simp only [u2, pF]
  by_cases e : s = 105 ∧ j = i
  · obtain ⟨rfl, rfl⟩ := e
    rw [if_pos ⟨rfl, rfl⟩, if_neg (fun g => h g.2.2)]
    exact Int32.add_zero _
  · rw [if_neg e]
    by_cases g : s = 105 ∧ j < i ∧ cnT F hs j
    · rw [if_pos g, if_pos ⟨g.1, Nat.lt_succ_of_lt g.2.1, g.2.2⟩]
    · rw [if_neg g, if_neg (fun q => g ⟨q.1, by have := q.2.1; by_cases e2 : j = i; exact absurd ⟨q.1, e2⟩ e; omega, q.2.2⟩)]
/-- minutes that were counted -/
def pN (F : FT) (hs : Nat → Nat) (x : Int32) : Nat → Int32
  | 0 => nI 0
  | i + 1 => pN F hs x i + (if cnT F hs i then x else nI 0)
theorem pN_t {F : FT} {hs : Nat → Nat} {x : Int32} {i : Nat} (h : cnT F hs i) : pN F hs x (i + 1) = pN F hs x i + x := congrArg (fun v => pN F hs x i + v) (if_pos h)
theorem pN_f {F : FT} {hs : Nat → Nat} {x : Int32} {i : Nat} (h : ¬ cnT F hs i) : pN F hs x (i + 1) = pN F hs x i + nI 0 := congrArg (fun v => pN F hs x i + v) (if_neg h)
def pG (F : FT) (x : Int32) : FT := u2 (thr F (nI 0)) 0 0 (F 0 0 + x)
theorem C_passN {Γ : GTy} {Y : HS} (hS : MS Y) (F : FT) {x : Int32} {hs : Nat → Nat} (hx : nI 1 ≤ x ∧ x ≤ nI 200) (h : F 0 0 + x ≤ nI 10000) (hh : ∀ k, k < 4 → F 104 k = nI (hs k)) (h20 : ∀ k, k < 4 → hs k ≤ 20) : Tn Γ M_X10_pass [.ref 900000, .int x] (wM Y F) (rt (some (.int (pN F hs x 4))) (wM Y (pF (pG F x) hs x 4))) := by
  refine Tn_of' rfl rfl rfl ?_
  show G Γ M_X10_pass (rm M_X10_pass) (Vn Γ M_X10_pass (rt (some (.int (pN F hs x 4))) (wM Y (pF (pG F x) hs x 4)))) (0, 0) 0 [some (.ref 900000), some (.int x), none, none, none] [] (wM Y F)
  have loop : ∀ (n9 j : Nat) (v4 : Option Value), j + n9 = 4 → G Γ M_X10_pass (rm M_X10_pass) (Vn Γ M_X10_pass (rt (some (.int (pN F hs x 4))) (wM Y (pF (pG F x) hs x 4)))) (0, 0) 59 [some (.ref 900000), some (.int x), some (.int (pN F hs x j)), some (.int (nI j)), v4] [] (wM Y (pF (pG F x) hs x j)) := by
    intro n9
    induction n9 with
    | zero =>
      intro j v4 hj
      obtain rfl : j = 4 := by omega
      refine G_iload_n (pc := 59) dX10_pass_59 rfl ?_
      refine G_iconst (pc := 60) (v := nI 4) dX10_pass_60 (by first | rfl | decide) ?_
      refine G_icmp_geN (pc := 61) (tgt := 143) (by omega) (by omega) dX10_pass_61 (by decide) (fun c61 => ?_) (fun c61 => ?_)
      · skip
        refine G_iload_n (pc := 143) dX10_pass_143 rfl ?_
        refine G_iret (pc := 144) VZ.n dX10_pass_144 rfl ⟨by decide, by decide⟩ ?_
        exact ⟨rfl, rfl⟩
      · omega
    | succ n9 ih =>
      intro j v4 hj
      have hj9 : j < 4 := by omega
      refine G_iload_n (pc := 59) dX10_pass_59 rfl ?_
      refine G_iconst (pc := 60) (v := nI 4) dX10_pass_60 (by first | rfl | decide) ?_
      refine G_icmp_geN (pc := 61) (tgt := 143) (by omega) (by omega) dX10_pass_61 (by decide) (fun c61 => ?_) (fun c61 => ?_)
      · omega
      · skip
        refine G_aload_n (pc := 64) dX10_pass_64 rfl ?_
        refine M_arr (pc := 65) (a := 1900103) hS fl_X10_17 rfl rfl dX10_pass_65 ?_
        refine G_iload_n (pc := 68) dX10_pass_68 rfl ?_
        refine M_ldv (pc := 69) (kk := 3) (j := j) (v := F 103 j) (pF_o (Or.inl (by decide))) hS rfl rfl rfl hj9 dX10_pass_69 ?_
        refine G_if_le (pc := 70) (tgt := 102) dX10_pass_70 (by decide) (fun c70 => ?_) (fun c70 => ?_)
        · skip
          refine G_iconst (pc := 102) (v := nI 0) dX10_pass_102 (by first | rfl | decide) ?_
          refine G_istore (pc := 103) dX10_pass_103 (by decide) ?_
          refine G_aload_n (pc := 105) dX10_pass_105 rfl ?_
          refine M_arr (pc := 106) (a := 1900105) hS fl_X10_24 rfl rfl dX10_pass_106 ?_
          refine G_iload_n (pc := 109) dX10_pass_109 rfl ?_
          refine G_dup2 (pc := 110) dX10_pass_110 rfl rfl ?_
          refine M_ldv (pc := 111) (kk := 5) (j := j) (v := F 105 j) (pF_o (Or.inr (Nat.le_refl j))) hS rfl rfl rfl hj9 dX10_pass_111 ?_
          refine G_iload (pc := 112) dX10_pass_112 rfl ?_
          refine G_if_eqN (pc := 114) (tgt := 121) (by omega) dX10_pass_114 (by decide) (fun _ => ?_) (fun h => absurd h (by decide))
          refine G_iconst (pc := 121) (v := nI 0) dX10_pass_121 (by first | rfl | decide) ?_
          refine G_iadd (pc := 122) dX10_pass_122 ?_
          refine M_st (pc := 123) (kk := 5) (j := j) hS rfl rfl rfl hj9 dX10_pass_123 ?_
          refine G_iload_n (pc := 124) dX10_pass_124 rfl ?_
          refine G_iload (pc := 125) dX10_pass_125 rfl ?_
          refine G_if_eqN (pc := 127) (tgt := 134) (by omega) dX10_pass_127 (by decide) (fun _ => ?_) (fun h => absurd h (by decide))
          refine G_iconst (pc := 134) (v := nI 0) dX10_pass_134 (by first | rfl | decide) ?_
          refine G_iadd (pc := 135) dX10_pass_135 ?_
          refine G_istore_n (pc := 136) dX10_pass_136 (by decide) ?_
          refine G_iincN (pc := 137) dX10_pass_137 rfl (by decide) ?_
          refine G_goto (pc := 140) (tgt := 59) dX10_pass_140 (by decide) ?_
          first
            | (have e : cnT F hs j := ⟨c70, Or.inl c79⟩
               have h9 := ih (j + 1) (some (.int (nI 1))) (by omega)
               rw [pN_t e, ← pF_t (F := pG F x) (show cnT (pG F x) hs j from e)] at h9
               exact h9)
            | (have e : cnT F hs j := ⟨c70, Or.inr c95⟩
               have h9 := ih (j + 1) (some (.int (nI 1))) (by omega)
               rw [pN_t e, ← pF_t (F := pG F x) (show cnT (pG F x) hs j from e)] at h9
               exact h9)
            | (have e : ¬ cnT F hs j := fun g => g.1 c70
               have h9 := ih (j + 1) (some (.int (nI 0))) (by omega)
               rw [pN_f e, ← pF_f (F := pG F x) (show ¬ cnT (pG F x) hs j from e)] at h9
               exact h9)
            | (have e : ¬ cnT F hs j := fun g => g.2.elim c79 c95
               have h9 := ih (j + 1) (some (.int (nI 0))) (by omega)
               rw [pN_f e, ← pF_f (F := pG F x) (show ¬ cnT (pG F x) hs j from e)] at h9
               exact h9)
        · skip
          refine G_aload_n (pc := 73) dX10_pass_73 rfl ?_
          refine M_arr (pc := 74) (a := 1900104) hS fl_X10_21 rfl rfl dX10_pass_74 ?_
          refine G_iload_n (pc := 77) dX10_pass_77 rfl ?_
          refine M_ldv (pc := 78) (kk := 4) (j := j) (v := nI (hs j)) ((pF_o (Or.inl (by decide))).trans (hh j hj9)) hS rfl rfl rfl hj9 dX10_pass_78 ?_
          have h209 := h20 j hj9
          refine G_if_eqN (pc := 79) (tgt := 98) (by omega) dX10_pass_79 (by decide) (fun c79 => ?_) (fun c79 => ?_)
          · skip
            refine G_iconst (pc := 98) (v := nI 1) dX10_pass_98 (by first | rfl | decide) ?_
            refine G_goto (pc := 99) (tgt := 103) dX10_pass_99 (by decide) ?_
            refine G_istore (pc := 103) dX10_pass_103 (by decide) ?_
            refine G_aload_n (pc := 105) dX10_pass_105 rfl ?_
            refine M_arr (pc := 106) (a := 1900105) hS fl_X10_24 rfl rfl dX10_pass_106 ?_
            refine G_iload_n (pc := 109) dX10_pass_109 rfl ?_
            refine G_dup2 (pc := 110) dX10_pass_110 rfl rfl ?_
            refine M_ldv (pc := 111) (kk := 5) (j := j) (v := F 105 j) (pF_o (Or.inr (Nat.le_refl j))) hS rfl rfl rfl hj9 dX10_pass_111 ?_
            refine G_iload (pc := 112) dX10_pass_112 rfl ?_
            refine G_if_eqN (pc := 114) (tgt := 121) (by omega) dX10_pass_114 (by decide) (fun h => absurd h (by decide)) (fun _ => ?_)
            refine G_iload_n (pc := 117) dX10_pass_117 rfl ?_
            refine G_goto (pc := 118) (tgt := 122) dX10_pass_118 (by decide) ?_
            refine G_iadd (pc := 122) dX10_pass_122 ?_
            refine M_st (pc := 123) (kk := 5) (j := j) hS rfl rfl rfl hj9 dX10_pass_123 ?_
            refine G_iload_n (pc := 124) dX10_pass_124 rfl ?_
            refine G_iload (pc := 125) dX10_pass_125 rfl ?_
            refine G_if_eqN (pc := 127) (tgt := 134) (by omega) dX10_pass_127 (by decide) (fun h => absurd h (by decide)) (fun _ => ?_)
            refine G_iload_n (pc := 130) dX10_pass_130 rfl ?_
            refine G_goto (pc := 131) (tgt := 135) dX10_pass_131 (by decide) ?_
            refine G_iadd (pc := 135) dX10_pass_135 ?_
            refine G_istore_n (pc := 136) dX10_pass_136 (by decide) ?_
            refine G_iincN (pc := 137) dX10_pass_137 rfl (by decide) ?_
            refine G_goto (pc := 140) (tgt := 59) dX10_pass_140 (by decide) ?_
            first
              | (have e : cnT F hs j := ⟨c70, Or.inl c79⟩
                 have h9 := ih (j + 1) (some (.int (nI 1))) (by omega)
                 rw [pN_t e, ← pF_t (F := pG F x) (show cnT (pG F x) hs j from e)] at h9
                 exact h9)
              | (have e : cnT F hs j := ⟨c70, Or.inr c95⟩
                 have h9 := ih (j + 1) (some (.int (nI 1))) (by omega)
                 rw [pN_t e, ← pF_t (F := pG F x) (show cnT (pG F x) hs j from e)] at h9
                 exact h9)
              | (have e : ¬ cnT F hs j := fun g => g.1 c70
                 have h9 := ih (j + 1) (some (.int (nI 0))) (by omega)
                 rw [pN_f e, ← pF_f (F := pG F x) (show ¬ cnT (pG F x) hs j from e)] at h9
                 exact h9)
              | (have e : ¬ cnT F hs j := fun g => g.2.elim c79 c95
                 have h9 := ih (j + 1) (some (.int (nI 0))) (by omega)
                 rw [pN_f e, ← pF_f (F := pG F x) (show ¬ cnT (pG F x) hs j from e)] at h9
                 exact h9)
          · skip
            refine G_aload_n (pc := 82) dX10_pass_82 rfl ?_
            refine M_arr (pc := 83) (a := 1900112) hS fl_X10_42 rfl rfl dX10_pass_83 ?_
            refine G_aload_n (pc := 86) dX10_pass_86 rfl ?_
            refine M_arr (pc := 87) (a := 1900104) hS fl_X10_21 rfl rfl dX10_pass_87 ?_
            refine G_iload_n (pc := 90) dX10_pass_90 rfl ?_
            refine M_ldv (pc := 91) (kk := 4) (j := j) (v := nI (hs j)) ((pF_o (Or.inl (by decide))).trans (hh j hj9)) hS rfl rfl rfl hj9 dX10_pass_91 ?_
            refine G_iconst (pc := 92) (v := nI 1) dX10_pass_92 (by first | rfl | decide) ?_
            refine G_isubN (pc := 93) (by omega) dX10_pass_93 ?_
            have h209 := h20 j hj9
            refine M_bldv (pc := 94) (kk := 12) (j := hs j - 1) (v := F 112 (hs j - 1)) (pF_o (Or.inl (by decide))) hS rfl rfl rfl (show hs j - 1 < 20 by omega) dX10_pass_94 ?_
            refine G_if_ne (pc := 95) (tgt := 102) dX10_pass_95 (by decide) (fun c95 => ?_) (fun c95 => ?_)
            · skip
              refine G_iconst (pc := 102) (v := nI 0) dX10_pass_102 (by first | rfl | decide) ?_
              refine G_istore (pc := 103) dX10_pass_103 (by decide) ?_
              refine G_aload_n (pc := 105) dX10_pass_105 rfl ?_
              refine M_arr (pc := 106) (a := 1900105) hS fl_X10_24 rfl rfl dX10_pass_106 ?_
              refine G_iload_n (pc := 109) dX10_pass_109 rfl ?_
              refine G_dup2 (pc := 110) dX10_pass_110 rfl rfl ?_
              refine M_ldv (pc := 111) (kk := 5) (j := j) (v := F 105 j) (pF_o (Or.inr (Nat.le_refl j))) hS rfl rfl rfl hj9 dX10_pass_111 ?_
              refine G_iload (pc := 112) dX10_pass_112 rfl ?_
              refine G_if_eqN (pc := 114) (tgt := 121) (by omega) dX10_pass_114 (by decide) (fun _ => ?_) (fun h => absurd h (by decide))
              refine G_iconst (pc := 121) (v := nI 0) dX10_pass_121 (by first | rfl | decide) ?_
              refine G_iadd (pc := 122) dX10_pass_122 ?_
              refine M_st (pc := 123) (kk := 5) (j := j) hS rfl rfl rfl hj9 dX10_pass_123 ?_
              refine G_iload_n (pc := 124) dX10_pass_124 rfl ?_
              refine G_iload (pc := 125) dX10_pass_125 rfl ?_
              refine G_if_eqN (pc := 127) (tgt := 134) (by omega) dX10_pass_127 (by decide) (fun _ => ?_) (fun h => absurd h (by decide))
              refine G_iconst (pc := 134) (v := nI 0) dX10_pass_134 (by first | rfl | decide) ?_
              refine G_iadd (pc := 135) dX10_pass_135 ?_
              refine G_istore_n (pc := 136) dX10_pass_136 (by decide) ?_
              refine G_iincN (pc := 137) dX10_pass_137 rfl (by decide) ?_
              refine G_goto (pc := 140) (tgt := 59) dX10_pass_140 (by decide) ?_
              first
                | (have e : cnT F hs j := ⟨c70, Or.inl c79⟩
                   have h9 := ih (j + 1) (some (.int (nI 1))) (by omega)
                   rw [pN_t e, ← pF_t (F := pG F x) (show cnT (pG F x) hs j from e)] at h9
                   exact h9)
                | (have e : cnT F hs j := ⟨c70, Or.inr c95⟩
                   have h9 := ih (j + 1) (some (.int (nI 1))) (by omega)
                   rw [pN_t e, ← pF_t (F := pG F x) (show cnT (pG F x) hs j from e)] at h9
                   exact h9)
                | (have e : ¬ cnT F hs j := fun g => g.1 c70
                   have h9 := ih (j + 1) (some (.int (nI 0))) (by omega)
                   rw [pN_f e, ← pF_f (F := pG F x) (show ¬ cnT (pG F x) hs j from e)] at h9
                   exact h9)
                | (have e : ¬ cnT F hs j := fun g => g.2.elim c79 c95
                   have h9 := ih (j + 1) (some (.int (nI 0))) (by omega)
                   rw [pN_f e, ← pF_f (F := pG F x) (show ¬ cnT (pG F x) hs j from e)] at h9
                   exact h9)
            · skip
              refine G_iconst (pc := 98) (v := nI 1) dX10_pass_98 (by first | rfl | decide) ?_
              refine G_goto (pc := 99) (tgt := 103) dX10_pass_99 (by decide) ?_
              refine G_istore (pc := 103) dX10_pass_103 (by decide) ?_
              refine G_aload_n (pc := 105) dX10_pass_105 rfl ?_
              refine M_arr (pc := 106) (a := 1900105) hS fl_X10_24 rfl rfl dX10_pass_106 ?_
              refine G_iload_n (pc := 109) dX10_pass_109 rfl ?_
              refine G_dup2 (pc := 110) dX10_pass_110 rfl rfl ?_
              refine M_ldv (pc := 111) (kk := 5) (j := j) (v := F 105 j) (pF_o (Or.inr (Nat.le_refl j))) hS rfl rfl rfl hj9 dX10_pass_111 ?_
              refine G_iload (pc := 112) dX10_pass_112 rfl ?_
              refine G_if_eqN (pc := 114) (tgt := 121) (by omega) dX10_pass_114 (by decide) (fun h => absurd h (by decide)) (fun _ => ?_)
              refine G_iload_n (pc := 117) dX10_pass_117 rfl ?_
              refine G_goto (pc := 118) (tgt := 122) dX10_pass_118 (by decide) ?_
              refine G_iadd (pc := 122) dX10_pass_122 ?_
              refine M_st (pc := 123) (kk := 5) (j := j) hS rfl rfl rfl hj9 dX10_pass_123 ?_
              refine G_iload_n (pc := 124) dX10_pass_124 rfl ?_
              refine G_iload (pc := 125) dX10_pass_125 rfl ?_
              refine G_if_eqN (pc := 127) (tgt := 134) (by omega) dX10_pass_127 (by decide) (fun h => absurd h (by decide)) (fun _ => ?_)
              refine G_iload_n (pc := 130) dX10_pass_130 rfl ?_
              refine G_goto (pc := 131) (tgt := 135) dX10_pass_131 (by decide) ?_
              refine G_iadd (pc := 135) dX10_pass_135 ?_
              refine G_istore_n (pc := 136) dX10_pass_136 (by decide) ?_
              refine G_iincN (pc := 137) dX10_pass_137 rfl (by decide) ?_
              refine G_goto (pc := 140) (tgt := 59) dX10_pass_140 (by decide) ?_
              first
                | (have e : cnT F hs j := ⟨c70, Or.inl c79⟩
                   have h9 := ih (j + 1) (some (.int (nI 1))) (by omega)
                   rw [pN_t e, ← pF_t (F := pG F x) (show cnT (pG F x) hs j from e)] at h9
                   exact h9)
                | (have e : cnT F hs j := ⟨c70, Or.inr c95⟩
                   have h9 := ih (j + 1) (some (.int (nI 1))) (by omega)
                   rw [pN_t e, ← pF_t (F := pG F x) (show cnT (pG F x) hs j from e)] at h9
                   exact h9)
                | (have e : ¬ cnT F hs j := fun g => g.1 c70
                   have h9 := ih (j + 1) (some (.int (nI 0))) (by omega)
                   rw [pN_f e, ← pF_f (F := pG F x) (show ¬ cnT (pG F x) hs j from e)] at h9
                   exact h9)
                | (have e : ¬ cnT F hs j := fun g => g.2.elim c79 c95
                   have h9 := ih (j + 1) (some (.int (nI 0))) (by omega)
                   rw [pN_f e, ← pF_f (F := pG F x) (show ¬ cnT (pG F x) hs j from e)] at h9
                   exact h9)
  refine G_aload_n (pc := 0) dX10_pass_0 rfl ?_
  refine G_iload_n (pc := 1) dX10_pass_1 rfl ?_
  refine G_iconst (pc := 2) (v := nI 1) dX10_pass_2 (by first | rfl | decide) ?_
  refine G_sipush (pc := 3) (v := nI 200) dX10_pass_3 (by first | rfl | decide) ?_
  refine K_Sn3r (pc := 6) (k' := (0, 0)) mok_X10_isIn lk_X10_75 rfl (aok0 rfl) dX10_pass_6 (C_isIn _ _ _ _) rfl ?_
  refine G_if_neB (pc := 9) (tgt := 16) dX10_pass_9 (by decide) (fun c9 => ?_) (fun c9 => ?_)
  · skip
    refine G_aload_n (pc := 16) dX10_pass_16 rfl ?_
    refine M_getv (pc := 17) (kk := 0) (v := F 0 0) rfl hS fl_X10_100 rfl dX10_pass_17 ?_
    refine G_iload_n (pc := 20) dX10_pass_20 rfl ?_
    refine G_iadd (pc := 21) dX10_pass_21 ?_
    refine G_sipush (pc := 22) (v := nI 10000) dX10_pass_22 (by first | rfl | decide) ?_
    refine G_icmp_le (pc := 25) (tgt := 32) dX10_pass_25 (by decide) (fun c25 => ?_) (fun c25 => ?_)
    · skip
      refine G_iconst (pc := 32) (v := nI 0) dX10_pass_32 (by first | rfl | decide) ?_
      refine M_put (pc := 33) hS fl_X10_72 fw_9_25 rfl dX10_pass_33 ?_
      refine G_aload_n (pc := 36) dX10_pass_36 rfl ?_
      refine M_get (pc := 37) hS fl_X10_72 rfl dX10_pass_37 ?_
      show G _ _ _ _ _ _ _ (.int (nI 0) :: _) _
      refine G_if_leN (pc := 40) (tgt := 45) (by omega) dX10_pass_40 (by decide) (fun _ => ?_) (fun h => absurd h (by decide))
      refine G_aload_n (pc := 45) dX10_pass_45 rfl ?_
      refine G_dup (pc := 46) dX10_pass_46 rfl ?_
      refine M_getv (pc := 47) (kk := 0) (v := F 0 0) rfl hS fl_X10_100 rfl dX10_pass_47 ?_
      refine G_iload_n (pc := 50) dX10_pass_50 rfl ?_
      refine G_iadd (pc := 51) dX10_pass_51 ?_
      refine M_put (pc := 52) hS fl_X10_100 fw_9_0 rfl dX10_pass_52 ?_
      refine G_iconst (pc := 55) (v := nI 0) dX10_pass_55 (by first | rfl | decide) ?_
      refine G_istore_n (pc := 56) dX10_pass_56 (by decide) ?_
      refine G_iconst (pc := 57) (v := nI 0) dX10_pass_57 (by first | rfl | decide) ?_
      refine G_istore_n (pc := 58) dX10_pass_58 (by decide) ?_
      have h9 := loop 4 0 none rfl
      rw [pF_0] at h9
      exact h9
    · exact absurd h c25
  · exact absurd hx c9
def lowA (p : Nat → Prop) [DecidablePred p] : Nat → Int32
  | 0 => -1
  | d + 1 => if p (7 - d) then nI (7 - d) else lowA p d
theorem C_lowest {Γ : GTy} {Y : HS} (hS : MS Y) (F : FT) {f : Nat} (hf : f < 20) : Tn Γ M_X10_lowest [.ref 900000, .int (nI f)] (wM Y F) (rt (some (.int (lowA (fun k => ¬ F 118 (8 * f + k) < 0) 7))) (wM Y F)) := by
  refine Tn_of' rfl rfl rfl ?_
  show G Γ M_X10_lowest (rm M_X10_lowest) (Vn Γ M_X10_lowest (rt (some (.int (lowA (fun k => ¬ F 118 (8 * f + k) < 0) 7))) (wM Y F))) (0, 0) 0 [some (.ref 900000), some (.int (nI f)), none, none] [] (wM Y F)
  have loop : ∀ (n9 j : Nat), j + n9 = 7 → G Γ M_X10_lowest (rm M_X10_lowest) (Vn Γ M_X10_lowest (rt (some (.int (lowA (fun k => ¬ F 118 (8 * f + k) < 0) 7))) (wM Y F))) (0, 0) 5 [some (.ref 900000), some (.int (nI f)), some (.int (lowA (fun k => ¬ F 118 (8 * f + k) < 0) j)), some (.int (nI (7 - j)))] [] (wM Y F) := by
    intro n9
    induction n9 with
    | zero =>
      intro j hj
      obtain rfl : j = 7 := by omega
      refine G_iload_n (pc := 5) dX10_lowest_5 rfl ?_
      refine G_if_leN (pc := 6) (tgt := 35) (by omega) dX10_lowest_6 (by decide) (fun c6 => ?_) (fun c6 => ?_)
      · skip
        refine G_iload_n (pc := 35) dX10_lowest_35 rfl ?_
        refine G_iret (pc := 36) VZ.n dX10_lowest_36 rfl ⟨by decide, by decide⟩ ?_
        exact ⟨rfl, rfl⟩
      · omega
    | succ n9 ih =>
      intro j hj
      have hj9 : j < 7 := by omega
      refine G_iload_n (pc := 5) dX10_lowest_5 rfl ?_
      refine G_if_leN (pc := 6) (tgt := 35) (by omega) dX10_lowest_6 (by decide) (fun c6 => ?_) (fun c6 => ?_)
      · omega
      · skip
        refine G_aload_n (pc := 9) dX10_lowest_9 rfl ?_
        refine M_arr (pc := 10) (a := 1900118) hS fl_X10_60 rfl rfl dX10_lowest_10 ?_
        refine G_bipush (pc := 13) (v := nI 8) dX10_lowest_13 (by first | rfl | decide) ?_
        refine G_iload_n (pc := 15) dX10_lowest_15 rfl ?_
        refine G_imulN (pc := 16) dX10_lowest_16 ?_
        refine G_iload_n (pc := 17) dX10_lowest_17 rfl ?_
        refine G_iaddN (pc := 18) dX10_lowest_18 ?_
        refine M_ldv (pc := 19) (kk := 18) (j := 8 * f + (7 - j)) (v := F 118 (8 * f + (7 - j))) rfl hS rfl rfl rfl (show 8 * f + (7 - j) < 160 by omega) dX10_lowest_19 ?_
        refine G_if_lt (pc := 20) (tgt := 27) dX10_lowest_20 (by decide) (fun c20 => ?_) (fun c20 => ?_)
        · skip
          refine G_iload_n (pc := 27) dX10_lowest_27 rfl ?_
          refine G_istore_n (pc := 28) dX10_lowest_28 (by decide) ?_
          refine G_iinc (pc := 29) (v := nI (7 - (j + 1))) dX10_lowest_29 rfl (iiM (by omega)) (by decide) ?_
          refine G_goto (pc := 32) (tgt := 5) dX10_lowest_32 (by decide) ?_
          have h9 := ih (j + 1) (by omega)
          simp only [lowA, c20, not_true_eq_false, not_false_eq_true, ↓reduceIte] at h9
          exact h9
        · skip
          refine G_iload_n (pc := 23) dX10_lowest_23 rfl ?_
          refine G_goto (pc := 24) (tgt := 28) dX10_lowest_24 (by decide) ?_
          refine G_istore_n (pc := 28) dX10_lowest_28 (by decide) ?_
          refine G_iinc (pc := 29) (v := nI (7 - (j + 1))) dX10_lowest_29 rfl (iiM (by omega)) (by decide) ?_
          refine G_goto (pc := 32) (tgt := 5) dX10_lowest_32 (by decide) ?_
          have h9 := ih (j + 1) (by omega)
          simp only [lowA, c20, not_true_eq_false, not_false_eq_true, ↓reduceIte] at h9
          exact h9
  refine G_iconst (pc := 0) (v := -1) dX10_lowest_0 (by first | rfl | decide) ?_
  refine G_istore_n (pc := 1) dX10_lowest_1 (by decide) ?_
  refine G_bipush (pc := 2) (v := nI 7) dX10_lowest_2 (by first | rfl | decide) ?_
  refine G_istore_n (pc := 4) dX10_lowest_4 (by decide) ?_
  exact loop 7 0 rfl
theorem C_minute {Γ : GTy} {Y : HS} (hS : MS Y) (F : FT)  : Tn Γ M_X10_minute [.ref 900000] (wM Y F) (rt (some (.int (F 0 0))) (wM Y (thr F (nI 0)))) := by
  refine Tn_of' rfl rfl rfl ?_
  show G Γ M_X10_minute (rm M_X10_minute) (Vn Γ M_X10_minute (rt (some (.int (F 0 0))) (wM Y (thr F (nI 0))))) (0, 0) 0 [some (.ref 900000)] [] (wM Y F)
  refine G_aload_n (pc := 0) dX10_minute_0 rfl ?_
  refine G_iconst (pc := 1) (v := nI 0) dX10_minute_1 (by first | rfl | decide) ?_
  refine M_put (pc := 2) hS fl_X10_72 fw_9_25 rfl dX10_minute_2 ?_
  refine G_aload_n (pc := 5) dX10_minute_5 rfl ?_
  refine M_getv (pc := 6) (kk := 0) (v := F 0 0) rfl hS fl_X10_100 rfl dX10_minute_6 ?_
  refine G_iret (pc := 9) VZ.n dX10_minute_9 rfl ⟨by decide, by decide⟩ ?_
  exact ⟨rfl, rfl⟩
theorem C_frames {Γ : GTy} {Y : HS} (hS : MS Y) (F : FT)  : Tn Γ M_X10_frames [.ref 900000] (wM Y F) (rt (some (.int (F 10 0))) (wM Y (thr F (nI 0)))) := by
  refine Tn_of' rfl rfl rfl ?_
  show G Γ M_X10_frames (rm M_X10_frames) (Vn Γ M_X10_frames (rt (some (.int (F 10 0))) (wM Y (thr F (nI 0))))) (0, 0) 0 [some (.ref 900000)] [] (wM Y F)
  refine G_aload_n (pc := 0) dX10_frames_0 rfl ?_
  refine G_iconst (pc := 1) (v := nI 0) dX10_frames_1 (by first | rfl | decide) ?_
  refine M_put (pc := 2) hS fl_X10_72 fw_9_25 rfl dX10_frames_2 ?_
  refine G_aload_n (pc := 5) dX10_frames_5 rfl ?_
  refine M_getv (pc := 6) (kk := 10) (v := F 10 0) rfl hS fl_X10_103 rfl dX10_frames_6 ?_
  refine G_iret (pc := 9) VZ.n dX10_frames_9 rfl ⟨by decide, by decide⟩ ?_
  exact ⟨rfl, rfl⟩
theorem C_isOpenX {Γ : GTy} {Y : HS} (hS : MS Y) (F : FT) {x : Int32} (hx : ¬ (nI 0 ≤ x ∧ x ≤ nI 3)) : Tn Γ M_X10_isOpen [.ref 900000, .int x] (wM Y F) (rt (some (.int (nI 0))) (wM Y (thr F (nI 1)))) := by
  refine Tn_of' rfl rfl rfl ?_
  show G Γ M_X10_isOpen (rm M_X10_isOpen) (Vn Γ M_X10_isOpen (rt (some (.int (nI 0))) (wM Y (thr F (nI 1))))) (0, 0) 0 [some (.ref 900000), some (.int x)] [] (wM Y F)
  refine G_aload_n (pc := 0) dX10_isOpen_0 rfl ?_
  refine G_iload_n (pc := 1) dX10_isOpen_1 rfl ?_
  refine K_Vn1r (pc := 2) (k' := (0, 0)) mok_X10_asksTable lk_X10_94 hS.1 rfl rfl rfl (aok0 rfl) dX10_isOpen_2 (C_asksTableX hS _ hx) rfl ?_
  refine G_if_eqN (pc := 5) (tgt := 21) (by omega) dX10_isOpen_5 (by decide) (fun _ => ?_) (fun h => absurd h (by decide))
  refine G_iconst (pc := 21) (v := nI 0) dX10_isOpen_21 (by first | rfl | decide) ?_
  refine G_zret (pc := 22) VZ.n dX10_isOpen_22 rfl (by first | exact Or.inl rfl | exact Or.inr rfl | exact b2_or _ | assumption) ⟨by decide, by decide⟩ ?_
  exact ⟨rfl, rfl⟩
theorem C_isOpenN {Γ : GTy} {Y : HS} (hS : MS Y) (F : FT) {t : Nat} (ht : t < 4) : Tn Γ M_X10_isOpen [.ref 900000, .int (nI t)] (wM Y F) (rt (some (.int (b2 (F 102 t = 0)))) (wM Y (thr F (nI 0)))) := by
  refine Tn_of' rfl rfl rfl ?_
  show G Γ M_X10_isOpen (rm M_X10_isOpen) (Vn Γ M_X10_isOpen (rt (some (.int (b2 (F 102 t = 0)))) (wM Y (thr F (nI 0))))) (0, 0) 0 [some (.ref 900000), some (.int (nI t))] [] (wM Y F)
  refine G_aload_n (pc := 0) dX10_isOpen_0 rfl ?_
  refine G_iload_n (pc := 1) dX10_isOpen_1 rfl ?_
  refine K_Vn1r (pc := 2) (k' := (0, 0)) mok_X10_asksTable lk_X10_94 hS.1 rfl rfl rfl (aok0 rfl) dX10_isOpen_2 (C_asksTableN hS _ ht) rfl ?_
  refine G_if_eqN (pc := 5) (tgt := 21) (by omega) dX10_isOpen_5 (by decide) (fun h => absurd h (by decide)) (fun _ => ?_)
  refine G_aload_n (pc := 8) dX10_isOpen_8 rfl ?_
  refine M_arr (pc := 9) (a := 1900102) hS fl_X10_13 rfl rfl dX10_isOpen_9 ?_
  refine G_iload_n (pc := 12) dX10_isOpen_12 rfl ?_
  refine M_bldv (pc := 13) (kk := 2) (j := t) (v := F 102 t) rfl hS rfl rfl rfl ht dX10_isOpen_13 ?_
  refine G_if_ne (pc := 14) (tgt := 21) dX10_isOpen_14 (by decide) (fun c14 => ?_) (fun c14 => ?_)
  · skip
    refine G_iconst (pc := 21) (v := nI 0) dX10_isOpen_21 (by first | rfl | decide) ?_
    refine G_zret (pc := 22) VZ.n dX10_isOpen_22 rfl (by first | exact Or.inl rfl | exact Or.inr rfl | exact b2_or _ | assumption) ⟨by decide, by decide⟩ ?_
    refine ⟨congrArg (fun z => some (Value.int z)) ?_, rfl⟩
    first | exact (b2_t c14).symm | exact (b2_f c14).symm
  · skip
    refine G_iconst (pc := 17) (v := nI 1) dX10_isOpen_17 (by first | rfl | decide) ?_
    refine G_goto (pc := 18) (tgt := 22) dX10_isOpen_18 (by decide) ?_
    refine G_zret (pc := 22) VZ.n dX10_isOpen_22 rfl (by first | exact Or.inl rfl | exact Or.inr rfl | exact b2_or _ | assumption) ⟨by decide, by decide⟩ ?_
    refine ⟨congrArg (fun z => some (Value.int z)) ?_, rfl⟩
    first | exact (b2_t c14).symm | exact (b2_f c14).symm
theorem C_renterX {Γ : GTy} {Y : HS} (hS : MS Y) (F : FT) {x : Int32} (hx : ¬ (nI 0 ≤ x ∧ x ≤ nI 3)) : Tn Γ M_X10_renter [.ref 900000, .int x] (wM Y F) (rt (some (.int (nI 0))) (wM Y (thr F (nI 1)))) := by
  refine Tn_of' rfl rfl rfl ?_
  show G Γ M_X10_renter (rm M_X10_renter) (Vn Γ M_X10_renter (rt (some (.int (nI 0))) (wM Y (thr F (nI 1))))) (0, 0) 0 [some (.ref 900000), some (.int x)] [] (wM Y F)
  refine G_aload_n (pc := 0) dX10_renter_0 rfl ?_
  refine G_iload_n (pc := 1) dX10_renter_1 rfl ?_
  refine K_Vn1r (pc := 2) (k' := (0, 0)) mok_X10_asksTable lk_X10_94 hS.1 rfl rfl rfl (aok0 rfl) dX10_renter_2 (C_asksTableX hS _ hx) rfl ?_
  refine G_if_eqN (pc := 5) (tgt := 19) (by omega) dX10_renter_5 (by decide) (fun _ => ?_) (fun h => absurd h (by decide))
  refine G_iconst (pc := 19) (v := nI 0) dX10_renter_19 (by first | rfl | decide) ?_
  refine G_iret (pc := 20) VZ.n dX10_renter_20 rfl ⟨by decide, by decide⟩ ?_
  exact ⟨rfl, rfl⟩
theorem C_renterN {Γ : GTy} {Y : HS} (hS : MS Y) (F : FT) {t : Nat} (ht : t < 4) : Tn Γ M_X10_renter [.ref 900000, .int (nI t)] (wM Y F) (rt (some (.int (F 103 t - nI 1))) (wM Y (thr F (nI 0)))) := by
  refine Tn_of' rfl rfl rfl ?_
  show G Γ M_X10_renter (rm M_X10_renter) (Vn Γ M_X10_renter (rt (some (.int (F 103 t - nI 1))) (wM Y (thr F (nI 0))))) (0, 0) 0 [some (.ref 900000), some (.int (nI t))] [] (wM Y F)
  refine G_aload_n (pc := 0) dX10_renter_0 rfl ?_
  refine G_iload_n (pc := 1) dX10_renter_1 rfl ?_
  refine K_Vn1r (pc := 2) (k' := (0, 0)) mok_X10_asksTable lk_X10_94 hS.1 rfl rfl rfl (aok0 rfl) dX10_renter_2 (C_asksTableN hS _ ht) rfl ?_
  refine G_if_eqN (pc := 5) (tgt := 19) (by omega) dX10_renter_5 (by decide) (fun h => absurd h (by decide)) (fun _ => ?_)
  refine G_aload_n (pc := 8) dX10_renter_8 rfl ?_
  refine M_arr (pc := 9) (a := 1900103) hS fl_X10_17 rfl rfl dX10_renter_9 ?_
  refine G_iload_n (pc := 12) dX10_renter_12 rfl ?_
  refine M_ldv (pc := 13) (kk := 3) (j := t) (v := F 103 t) rfl hS rfl rfl rfl ht dX10_renter_13 ?_
  refine G_iconst (pc := 14) (v := nI 1) dX10_renter_14 (by first | rfl | decide) ?_
  refine G_isub (pc := 15) dX10_renter_15 ?_
  refine G_goto (pc := 16) (tgt := 20) dX10_renter_16 (by decide) ?_
  refine G_iret (pc := 20) VZ.n dX10_renter_20 rfl ⟨by decide, by decide⟩ ?_
  exact ⟨rfl, rfl⟩
theorem C_clockX {Γ : GTy} {Y : HS} (hS : MS Y) (F : FT) {x : Int32} (hx : ¬ (nI 0 ≤ x ∧ x ≤ nI 3)) : Tn Γ M_X10_clock [.ref 900000, .int x] (wM Y F) (rt (some (.int (nI 0))) (wM Y (thr F (nI 1)))) := by
  refine Tn_of' rfl rfl rfl ?_
  show G Γ M_X10_clock (rm M_X10_clock) (Vn Γ M_X10_clock (rt (some (.int (nI 0))) (wM Y (thr F (nI 1))))) (0, 0) 0 [some (.ref 900000), some (.int x)] [] (wM Y F)
  refine G_aload_n (pc := 0) dX10_clock_0 rfl ?_
  refine G_iload_n (pc := 1) dX10_clock_1 rfl ?_
  refine K_Vn1r (pc := 2) (k' := (0, 0)) mok_X10_asksTable lk_X10_94 hS.1 rfl rfl rfl (aok0 rfl) dX10_clock_2 (C_asksTableX hS _ hx) rfl ?_
  refine G_if_eqN (pc := 5) (tgt := 17) (by omega) dX10_clock_5 (by decide) (fun _ => ?_) (fun h => absurd h (by decide))
  refine G_iconst (pc := 17) (v := nI 0) dX10_clock_17 (by first | rfl | decide) ?_
  refine G_iret (pc := 18) VZ.n dX10_clock_18 rfl ⟨by decide, by decide⟩ ?_
  exact ⟨rfl, rfl⟩
theorem C_clockN {Γ : GTy} {Y : HS} (hS : MS Y) (F : FT) {t : Nat} (ht : t < 4) : Tn Γ M_X10_clock [.ref 900000, .int (nI t)] (wM Y F) (rt (some (.int (F 105 t))) (wM Y (thr F (nI 0)))) := by
  refine Tn_of' rfl rfl rfl ?_
  show G Γ M_X10_clock (rm M_X10_clock) (Vn Γ M_X10_clock (rt (some (.int (F 105 t))) (wM Y (thr F (nI 0))))) (0, 0) 0 [some (.ref 900000), some (.int (nI t))] [] (wM Y F)
  refine G_aload_n (pc := 0) dX10_clock_0 rfl ?_
  refine G_iload_n (pc := 1) dX10_clock_1 rfl ?_
  refine K_Vn1r (pc := 2) (k' := (0, 0)) mok_X10_asksTable lk_X10_94 hS.1 rfl rfl rfl (aok0 rfl) dX10_clock_2 (C_asksTableN hS _ ht) rfl ?_
  refine G_if_eqN (pc := 5) (tgt := 17) (by omega) dX10_clock_5 (by decide) (fun h => absurd h (by decide)) (fun _ => ?_)
  refine G_aload_n (pc := 8) dX10_clock_8 rfl ?_
  refine M_arr (pc := 9) (a := 1900105) hS fl_X10_24 rfl rfl dX10_clock_9 ?_
  refine G_iload_n (pc := 12) dX10_clock_12 rfl ?_
  refine M_ldv (pc := 13) (kk := 5) (j := t) (v := F 105 t) rfl hS rfl rfl rfl ht dX10_clock_13 ?_
  refine G_goto (pc := 14) (tgt := 18) dX10_clock_14 (by decide) ?_
  refine G_iret (pc := 18) VZ.n dX10_clock_18 rfl ⟨by decide, by decide⟩ ?_
  exact ⟨rfl, rfl⟩
theorem C_frameOnX {Γ : GTy} {Y : HS} (hS : MS Y) (F : FT) {x : Int32} (hx : ¬ (nI 0 ≤ x ∧ x ≤ nI 3)) : Tn Γ M_X10_frameOn [.ref 900000, .int x] (wM Y F) (rt (some (.int (nI 0))) (wM Y (thr F (nI 1)))) := by
  refine Tn_of' rfl rfl rfl ?_
  show G Γ M_X10_frameOn (rm M_X10_frameOn) (Vn Γ M_X10_frameOn (rt (some (.int (nI 0))) (wM Y (thr F (nI 1))))) (0, 0) 0 [some (.ref 900000), some (.int x)] [] (wM Y F)
  refine G_aload_n (pc := 0) dX10_frameOn_0 rfl ?_
  refine G_iload_n (pc := 1) dX10_frameOn_1 rfl ?_
  refine K_Vn1r (pc := 2) (k' := (0, 0)) mok_X10_asksTable lk_X10_94 hS.1 rfl rfl rfl (aok0 rfl) dX10_frameOn_2 (C_asksTableX hS _ hx) rfl ?_
  refine G_if_eqN (pc := 5) (tgt := 19) (by omega) dX10_frameOn_5 (by decide) (fun _ => ?_) (fun h => absurd h (by decide))
  refine G_iconst (pc := 19) (v := nI 0) dX10_frameOn_19 (by first | rfl | decide) ?_
  refine G_iret (pc := 20) VZ.n dX10_frameOn_20 rfl ⟨by decide, by decide⟩ ?_
  exact ⟨rfl, rfl⟩
theorem C_frameOnN {Γ : GTy} {Y : HS} (hS : MS Y) (F : FT) {t : Nat} (ht : t < 4) : Tn Γ M_X10_frameOn [.ref 900000, .int (nI t)] (wM Y F) (rt (some (.int (F 104 t - nI 1))) (wM Y (thr F (nI 0)))) := by
  refine Tn_of' rfl rfl rfl ?_
  show G Γ M_X10_frameOn (rm M_X10_frameOn) (Vn Γ M_X10_frameOn (rt (some (.int (F 104 t - nI 1))) (wM Y (thr F (nI 0))))) (0, 0) 0 [some (.ref 900000), some (.int (nI t))] [] (wM Y F)
  refine G_aload_n (pc := 0) dX10_frameOn_0 rfl ?_
  refine G_iload_n (pc := 1) dX10_frameOn_1 rfl ?_
  refine K_Vn1r (pc := 2) (k' := (0, 0)) mok_X10_asksTable lk_X10_94 hS.1 rfl rfl rfl (aok0 rfl) dX10_frameOn_2 (C_asksTableN hS _ ht) rfl ?_
  refine G_if_eqN (pc := 5) (tgt := 19) (by omega) dX10_frameOn_5 (by decide) (fun h => absurd h (by decide)) (fun _ => ?_)
  refine G_aload_n (pc := 8) dX10_frameOn_8 rfl ?_
  refine M_arr (pc := 9) (a := 1900104) hS fl_X10_21 rfl rfl dX10_frameOn_9 ?_
  refine G_iload_n (pc := 12) dX10_frameOn_12 rfl ?_
  refine M_ldv (pc := 13) (kk := 4) (j := t) (v := F 104 t) rfl hS rfl rfl rfl ht dX10_frameOn_13 ?_
  refine G_iconst (pc := 14) (v := nI 1) dX10_frameOn_14 (by first | rfl | decide) ?_
  refine G_isub (pc := 15) dX10_frameOn_15 ?_
  refine G_goto (pc := 16) (tgt := 20) dX10_frameOn_16 (by decide) ?_
  refine G_iret (pc := 20) VZ.n dX10_frameOn_20 rfl ⟨by decide, by decide⟩ ?_
  exact ⟨rfl, rfl⟩
theorem C_stateX {Γ : GTy} {Y : HS} (hS : MS Y) (F : FT) {x : Int32} {n : Nat} (hn : F 10 0 = nI n) (hx : ¬ (nI 0 ≤ x ∧ x ≤ nI n - nI 1)) : Tn Γ M_X10_state [.ref 900000, .int x] (wM Y F) (rt (some (.int (nI 0))) (wM Y (thr F (nI 1)))) := by
  refine Tn_of' rfl rfl rfl ?_
  show G Γ M_X10_state (rm M_X10_state) (Vn Γ M_X10_state (rt (some (.int (nI 0))) (wM Y (thr F (nI 1))))) (0, 0) 0 [some (.ref 900000), some (.int x)] [] (wM Y F)
  refine G_aload_n (pc := 0) dX10_state_0 rfl ?_
  refine G_iload_n (pc := 1) dX10_state_1 rfl ?_
  refine K_Vn1r (pc := 2) (k' := (0, 0)) mok_X10_asks lk_X10_160 hS.1 rfl rfl rfl (aok0 rfl) dX10_state_2 (C_asksX hS _ hn hx) rfl ?_
  refine G_if_eqN (pc := 5) (tgt := 17) (by omega) dX10_state_5 (by decide) (fun _ => ?_) (fun h => absurd h (by decide))
  refine G_iconst (pc := 17) (v := nI 0) dX10_state_17 (by first | rfl | decide) ?_
  refine G_iret (pc := 18) VZ.n dX10_state_18 rfl ⟨by decide, by decide⟩ ?_
  exact ⟨rfl, rfl⟩
theorem C_stateN {Γ : GTy} {Y : HS} (hS : MS Y) (F : FT) {f n : Nat} (hf : f < n) (hn : F 10 0 = nI n) (n20 : n ≤ 20) : Tn Γ M_X10_state [.ref 900000, .int (nI f)] (wM Y F) (rt (some (.int (F 113 f))) (wM Y (thr F (nI 0)))) := by
  refine Tn_of' rfl rfl rfl ?_
  show G Γ M_X10_state (rm M_X10_state) (Vn Γ M_X10_state (rt (some (.int (F 113 f))) (wM Y (thr F (nI 0))))) (0, 0) 0 [some (.ref 900000), some (.int (nI f))] [] (wM Y F)
  refine G_aload_n (pc := 0) dX10_state_0 rfl ?_
  refine G_iload_n (pc := 1) dX10_state_1 rfl ?_
  refine K_Vn1r (pc := 2) (k' := (0, 0)) mok_X10_asks lk_X10_160 hS.1 rfl rfl rfl (aok0 rfl) dX10_state_2 (C_asksN hS _ hf hn n20) rfl ?_
  refine G_if_eqN (pc := 5) (tgt := 17) (by omega) dX10_state_5 (by decide) (fun h => absurd h (by decide)) (fun _ => ?_)
  refine G_aload_n (pc := 8) dX10_state_8 rfl ?_
  refine M_arr (pc := 9) (a := 1900113) hS fl_X10_45 rfl rfl dX10_state_9 ?_
  refine G_iload_n (pc := 12) dX10_state_12 rfl ?_
  refine M_ldv (pc := 13) (kk := 13) (j := f) (v := F 113 f) rfl hS rfl rfl rfl (show f < 20 by omega) dX10_state_13 ?_
  refine G_goto (pc := 14) (tgt := 18) dX10_state_14 (by decide) ?_
  refine G_iret (pc := 18) VZ.n dX10_state_18 rfl ⟨by decide, by decide⟩ ?_
  exact ⟨rfl, rfl⟩
theorem C_winnerX {Γ : GTy} {Y : HS} (hS : MS Y) (F : FT) {x : Int32} {n : Nat} (hn : F 10 0 = nI n) (hx : ¬ (nI 0 ≤ x ∧ x ≤ nI n - nI 1)) : Tn Γ M_X10_winner [.ref 900000, .int x] (wM Y F) (rt (some (.int (nI 0))) (wM Y (thr F (nI 1)))) := by
  refine Tn_of' rfl rfl rfl ?_
  show G Γ M_X10_winner (rm M_X10_winner) (Vn Γ M_X10_winner (rt (some (.int (nI 0))) (wM Y (thr F (nI 1))))) (0, 0) 0 [some (.ref 900000), some (.int x)] [] (wM Y F)
  refine G_aload_n (pc := 0) dX10_winner_0 rfl ?_
  refine G_iload_n (pc := 1) dX10_winner_1 rfl ?_
  refine K_Vn1r (pc := 2) (k' := (0, 0)) mok_X10_asks lk_X10_160 hS.1 rfl rfl rfl (aok0 rfl) dX10_winner_2 (C_asksX hS _ hn hx) rfl ?_
  refine G_if_eqN (pc := 5) (tgt := 17) (by omega) dX10_winner_5 (by decide) (fun _ => ?_) (fun h => absurd h (by decide))
  refine G_iconst (pc := 17) (v := nI 0) dX10_winner_17 (by first | rfl | decide) ?_
  refine G_iret (pc := 18) VZ.n dX10_winner_18 rfl ⟨by decide, by decide⟩ ?_
  exact ⟨rfl, rfl⟩
theorem C_winnerN {Γ : GTy} {Y : HS} (hS : MS Y) (F : FT) {f n : Nat} (hf : f < n) (hn : F 10 0 = nI n) (n20 : n ≤ 20) : Tn Γ M_X10_winner [.ref 900000, .int (nI f)] (wM Y F) (rt (some (.int (F 117 f))) (wM Y (thr F (nI 0)))) := by
  refine Tn_of' rfl rfl rfl ?_
  show G Γ M_X10_winner (rm M_X10_winner) (Vn Γ M_X10_winner (rt (some (.int (F 117 f))) (wM Y (thr F (nI 0))))) (0, 0) 0 [some (.ref 900000), some (.int (nI f))] [] (wM Y F)
  refine G_aload_n (pc := 0) dX10_winner_0 rfl ?_
  refine G_iload_n (pc := 1) dX10_winner_1 rfl ?_
  refine K_Vn1r (pc := 2) (k' := (0, 0)) mok_X10_asks lk_X10_160 hS.1 rfl rfl rfl (aok0 rfl) dX10_winner_2 (C_asksN hS _ hf hn n20) rfl ?_
  refine G_if_eqN (pc := 5) (tgt := 17) (by omega) dX10_winner_5 (by decide) (fun h => absurd h (by decide)) (fun _ => ?_)
  refine G_aload_n (pc := 8) dX10_winner_8 rfl ?_
  refine M_arr (pc := 9) (a := 1900117) hS fl_X10_57 rfl rfl dX10_winner_9 ?_
  refine G_iload_n (pc := 12) dX10_winner_12 rfl ?_
  refine M_ldv (pc := 13) (kk := 17) (j := f) (v := F 117 f) rfl hS rfl rfl rfl (show f < 20 by omega) dX10_winner_13 ?_
  refine G_goto (pc := 14) (tgt := 18) dX10_winner_14 (by decide) ?_
  refine G_iret (pc := 18) VZ.n dX10_winner_18 rfl ⟨by decide, by decide⟩ ?_
  exact ⟨rfl, rfl⟩
theorem C_isFreeX {Γ : GTy} {Y : HS} (hS : MS Y) (F : FT) {x : Int32} {n : Nat} (hn : F 10 0 = nI n) (hx : ¬ (nI 0 ≤ x ∧ x ≤ nI n - nI 1)) : Tn Γ M_X10_isFree [.ref 900000, .int x] (wM Y F) (rt (some (.int (nI 0))) (wM Y (thr F (nI 1)))) := by
  refine Tn_of' rfl rfl rfl ?_
  show G Γ M_X10_isFree (rm M_X10_isFree) (Vn Γ M_X10_isFree (rt (some (.int (nI 0))) (wM Y (thr F (nI 1))))) (0, 0) 0 [some (.ref 900000), some (.int x)] [] (wM Y F)
  refine G_aload_n (pc := 0) dX10_isFree_0 rfl ?_
  refine G_iload_n (pc := 1) dX10_isFree_1 rfl ?_
  refine K_Vn1r (pc := 2) (k' := (0, 0)) mok_X10_asks lk_X10_160 hS.1 rfl rfl rfl (aok0 rfl) dX10_isFree_2 (C_asksX hS _ hn hx) rfl ?_
  refine G_if_eqN (pc := 5) (tgt := 21) (by omega) dX10_isFree_5 (by decide) (fun _ => ?_) (fun h => absurd h (by decide))
  refine G_iconst (pc := 21) (v := nI 0) dX10_isFree_21 (by first | rfl | decide) ?_
  refine G_zret (pc := 22) VZ.n dX10_isFree_22 rfl (by first | exact Or.inl rfl | exact Or.inr rfl | exact b2_or _ | assumption) ⟨by decide, by decide⟩ ?_
  exact ⟨rfl, rfl⟩
theorem C_isFreeN {Γ : GTy} {Y : HS} (hS : MS Y) (F : FT) {f n : Nat} (hf : f < n) (hn : F 10 0 = nI n) (n20 : n ≤ 20) : Tn Γ M_X10_isFree [.ref 900000, .int (nI f)] (wM Y F) (rt (some (.int (b2 (¬ F 116 f = 0)))) (wM Y (thr F (nI 0)))) := by
  refine Tn_of' rfl rfl rfl ?_
  show G Γ M_X10_isFree (rm M_X10_isFree) (Vn Γ M_X10_isFree (rt (some (.int (b2 (¬ F 116 f = 0)))) (wM Y (thr F (nI 0))))) (0, 0) 0 [some (.ref 900000), some (.int (nI f))] [] (wM Y F)
  refine G_aload_n (pc := 0) dX10_isFree_0 rfl ?_
  refine G_iload_n (pc := 1) dX10_isFree_1 rfl ?_
  refine K_Vn1r (pc := 2) (k' := (0, 0)) mok_X10_asks lk_X10_160 hS.1 rfl rfl rfl (aok0 rfl) dX10_isFree_2 (C_asksN hS _ hf hn n20) rfl ?_
  refine G_if_eqN (pc := 5) (tgt := 21) (by omega) dX10_isFree_5 (by decide) (fun h => absurd h (by decide)) (fun _ => ?_)
  refine G_aload_n (pc := 8) dX10_isFree_8 rfl ?_
  refine M_arr (pc := 9) (a := 1900116) hS fl_X10_54 rfl rfl dX10_isFree_9 ?_
  refine G_iload_n (pc := 12) dX10_isFree_12 rfl ?_
  refine M_bldv (pc := 13) (kk := 16) (j := f) (v := F 116 f) rfl hS rfl rfl rfl (show f < 20 by omega) dX10_isFree_13 ?_
  refine G_if_eq (pc := 14) (tgt := 21) dX10_isFree_14 (by decide) (fun c14 => ?_) (fun c14 => ?_)
  · skip
    refine G_iconst (pc := 21) (v := nI 0) dX10_isFree_21 (by first | rfl | decide) ?_
    refine G_zret (pc := 22) VZ.n dX10_isFree_22 rfl (by first | exact Or.inl rfl | exact Or.inr rfl | exact b2_or _ | assumption) ⟨by decide, by decide⟩ ?_
    refine ⟨congrArg (fun z => some (Value.int z)) ?_, rfl⟩
    first | exact (b2_t c14).symm | exact (b2_f (fun g => g c14)).symm
  · skip
    refine G_iconst (pc := 17) (v := nI 1) dX10_isFree_17 (by first | rfl | decide) ?_
    refine G_goto (pc := 18) (tgt := 22) dX10_isFree_18 (by decide) ?_
    refine G_zret (pc := 22) VZ.n dX10_isFree_22 rfl (by first | exact Or.inl rfl | exact Or.inr rfl | exact b2_or _ | assumption) ⟨by decide, by decide⟩ ?_
    refine ⟨congrArg (fun z => some (Value.int z)) ?_, rfl⟩
    first | exact (b2_t c14).symm | exact (b2_f (fun g => g c14)).symm
theorem C_ballOnX {Γ : GTy} {Y : HS} (hS : MS Y) (F : FT) {x : Int32} {n : Nat} (hn : F 10 0 = nI n) (hx : ¬ (nI 0 ≤ x ∧ x ≤ nI n - nI 1)) : Tn Γ M_X10_ballOn [.ref 900000, .int x] (wM Y F) (rt (some (.int (nI 0))) (wM Y (thr F (nI 1)))) := by
  refine Tn_of' rfl rfl rfl ?_
  show G Γ M_X10_ballOn (rm M_X10_ballOn) (Vn Γ M_X10_ballOn (rt (some (.int (nI 0))) (wM Y (thr F (nI 1))))) (0, 0) 0 [some (.ref 900000), some (.int x)] [] (wM Y F)
  refine G_aload_n (pc := 0) dX10_ballOn_0 rfl ?_
  refine G_iload_n (pc := 1) dX10_ballOn_1 rfl ?_
  refine K_Vn1r (pc := 2) (k' := (0, 0)) mok_X10_asks lk_X10_160 hS.1 rfl rfl rfl (aok0 rfl) dX10_ballOn_2 (C_asksX hS _ hn hx) rfl ?_
  refine G_if_eqN (pc := 5) (tgt := 16) (by omega) dX10_ballOn_5 (by decide) (fun _ => ?_) (fun h => absurd h (by decide))
  refine G_iconst (pc := 16) (v := nI 0) dX10_ballOn_16 (by first | rfl | decide) ?_
  refine G_iret (pc := 17) VZ.n dX10_ballOn_17 rfl ⟨by decide, by decide⟩ ?_
  exact ⟨rfl, rfl⟩
theorem C_ballOnN {Γ : GTy} {Y : HS} (hS : MS Y) (F : FT) {f n : Nat} (hf : f < n) (hn : F 10 0 = nI n) (n20 : n ≤ 20) : Tn Γ M_X10_ballOn [.ref 900000, .int (nI f)] (wM Y F) (rt (some (.int (lowA (fun k => ¬ F 118 (8 * f + k) < 0) 7))) (wM Y (thr F (nI 0)))) := by
  refine Tn_of' rfl rfl rfl ?_
  show G Γ M_X10_ballOn (rm M_X10_ballOn) (Vn Γ M_X10_ballOn (rt (some (.int (lowA (fun k => ¬ F 118 (8 * f + k) < 0) 7))) (wM Y (thr F (nI 0))))) (0, 0) 0 [some (.ref 900000), some (.int (nI f))] [] (wM Y F)
  refine G_aload_n (pc := 0) dX10_ballOn_0 rfl ?_
  refine G_iload_n (pc := 1) dX10_ballOn_1 rfl ?_
  refine K_Vn1r (pc := 2) (k' := (0, 0)) mok_X10_asks lk_X10_160 hS.1 rfl rfl rfl (aok0 rfl) dX10_ballOn_2 (C_asksN hS _ hf hn n20) rfl ?_
  refine G_if_eqN (pc := 5) (tgt := 16) (by omega) dX10_ballOn_5 (by decide) (fun h => absurd h (by decide)) (fun _ => ?_)
  refine G_aload_n (pc := 8) dX10_ballOn_8 rfl ?_
  refine G_iload_n (pc := 9) dX10_ballOn_9 rfl ?_
  refine K_Vn1r (pc := 10) (k' := (0, 0)) mok_X10_lowest lk_X10_151 hS.1 rfl rfl rfl (aok0 rfl) dX10_ballOn_10 (C_lowest hS _ (by omega)) rfl ?_
  refine G_goto (pc := 13) (tgt := 17) dX10_ballOn_13 (by decide) ?_
  refine G_iret (pc := 17) VZ.n dX10_ballOn_17 rfl ⟨by decide, by decide⟩ ?_
  exact ⟨rfl, rfl⟩
theorem C_turnX {Γ : GTy} {Y : HS} (hS : MS Y) (F : FT) {x : Int32} {n : Nat} (hn : F 10 0 = nI n) (hx : ¬ (nI 0 ≤ x ∧ x ≤ nI n - nI 1)) : Tn Γ M_X10_turn [.ref 900000, .int x] (wM Y F) (rt (some (.int (nI 0))) (wM Y (thr F (nI 1)))) := by
  refine Tn_of' rfl rfl rfl ?_
  show G Γ M_X10_turn (rm M_X10_turn) (Vn Γ M_X10_turn (rt (some (.int (nI 0))) (wM Y (thr F (nI 1))))) (0, 0) 0 [some (.ref 900000), some (.int x)] [] (wM Y F)
  refine G_aload_n (pc := 0) dX10_turn_0 rfl ?_
  refine G_iload_n (pc := 1) dX10_turn_1 rfl ?_
  refine K_Vn1r (pc := 2) (k' := (0, 0)) mok_X10_asks lk_X10_160 hS.1 rfl rfl rfl (aok0 rfl) dX10_turn_2 (C_asksX hS _ hn hx) rfl ?_
  refine G_if_neN (pc := 5) (tgt := 12) (by omega) dX10_turn_5 (by decide) (fun h => absurd h (by decide)) (fun _ => ?_)
  refine G_iconst (pc := 8) (v := nI 0) dX10_turn_8 (by first | rfl | decide) ?_
  refine G_goto (pc := 9) (tgt := 41) dX10_turn_9 (by decide) ?_
  refine G_iret (pc := 41) VZ.n dX10_turn_41 rfl ⟨by decide, by decide⟩ ?_
  exact ⟨rfl, rfl⟩
theorem C_turnN {Γ : GTy} {Y : HS} (hS : MS Y) (F : FT) {f n : Nat} (hf : f < n) (hn : F 10 0 = nI n) (n20 : n ≤ 20) {u : Nat} (hu : F 114 f = nI u) (u1 : u ≤ 1) : Tn Γ M_X10_turn [.ref 900000, .int (nI f)] (wM Y F) (rt (some (.int (if F 113 f = nI 2 then -1 else F 111 (2 * f + u)))) (wM Y (thr F (nI 0)))) := by
  refine Tn_of' rfl rfl rfl ?_
  show G Γ M_X10_turn (rm M_X10_turn) (Vn Γ M_X10_turn (rt (some (.int (if F 113 f = nI 2 then -1 else F 111 (2 * f + u)))) (wM Y (thr F (nI 0))))) (0, 0) 0 [some (.ref 900000), some (.int (nI f))] [] (wM Y F)
  refine G_aload_n (pc := 0) dX10_turn_0 rfl ?_
  refine G_iload_n (pc := 1) dX10_turn_1 rfl ?_
  refine K_Vn1r (pc := 2) (k' := (0, 0)) mok_X10_asks lk_X10_160 hS.1 rfl rfl rfl (aok0 rfl) dX10_turn_2 (C_asksN hS _ hf hn n20) rfl ?_
  refine G_if_neN (pc := 5) (tgt := 12) (by omega) dX10_turn_5 (by decide) (fun _ => ?_) (fun h => absurd h (by decide))
  refine G_aload_n (pc := 12) dX10_turn_12 rfl ?_
  refine M_arr (pc := 13) (a := 1900113) hS fl_X10_45 rfl rfl dX10_turn_13 ?_
  refine G_iload_n (pc := 16) dX10_turn_16 rfl ?_
  refine M_ldv (pc := 17) (kk := 13) (j := f) (v := F 113 f) rfl hS rfl rfl rfl (show f < 20 by omega) dX10_turn_17 ?_
  refine G_iconst (pc := 18) (v := nI 2) dX10_turn_18 (by first | rfl | decide) ?_
  refine G_icmp_ne (pc := 19) (tgt := 26) dX10_turn_19 (by decide) (fun c19 => ?_) (fun c19 => ?_)
  · skip
    refine G_aload_n (pc := 26) dX10_turn_26 rfl ?_
    refine M_arr (pc := 27) (a := 1900111) hS fl_X10_39 rfl rfl dX10_turn_27 ?_
    refine G_iconst (pc := 30) (v := nI 2) dX10_turn_30 (by first | rfl | decide) ?_
    refine G_iload_n (pc := 31) dX10_turn_31 rfl ?_
    refine G_imulN (pc := 32) dX10_turn_32 ?_
    refine G_aload_n (pc := 33) dX10_turn_33 rfl ?_
    refine M_arr (pc := 34) (a := 1900114) hS fl_X10_48 rfl rfl dX10_turn_34 ?_
    refine G_iload_n (pc := 37) dX10_turn_37 rfl ?_
    refine M_ldv (pc := 38) (kk := 14) (j := f) (v := nI u) hu hS rfl rfl rfl (show f < 20 by omega) dX10_turn_38 ?_
    refine G_iaddN (pc := 39) dX10_turn_39 ?_
    refine M_ldv (pc := 40) (kk := 11) (j := 2 * f + u) (v := F 111 (2 * f + u)) rfl hS rfl rfl rfl (show 2 * f + u < 40 by omega) dX10_turn_40 ?_
    refine G_iret (pc := 41) VZ.n dX10_turn_41 rfl ⟨by decide, by decide⟩ ?_
    refine ⟨congrArg (fun z => some (Value.int z)) ?_, rfl⟩
    first | exact (if_pos c19).symm | exact (if_neg c19).symm
  · skip
    refine G_iconst (pc := 22) (v := -1) dX10_turn_22 (by first | rfl | decide) ?_
    refine G_goto (pc := 23) (tgt := 41) dX10_turn_23 (by decide) ?_
    refine G_iret (pc := 41) VZ.n dX10_turn_41 rfl ⟨by decide, by decide⟩ ?_
    refine ⟨congrArg (fun z => some (Value.int z)) ?_, rfl⟩
    first | exact (if_pos c19).symm | exact (if_neg c19).symm
theorem C_pointsX {Γ : GTy} {Y : HS} (hS : MS Y) (F : FT) {x : Int32} {n : Nat} (hn : F 10 0 = nI n) (hx : ¬ (nI 0 ≤ x ∧ x ≤ nI n - nI 1)) {z : Int32} : Tn Γ M_X10_points [.ref 900000, .int x, .int z] (wM Y F) (rt (some (.int (nI 0))) (wM Y (thr F (nI 1)))) := by
  refine Tn_of' rfl rfl rfl ?_
  show G Γ M_X10_points (rm M_X10_points) (Vn Γ M_X10_points (rt (some (.int (nI 0))) (wM Y (thr F (nI 1))))) (0, 0) 0 [some (.ref 900000), some (.int x), some (.int z)] [] (wM Y F)
  refine G_aload_n (pc := 0) dX10_points_0 rfl ?_
  refine G_iload_n (pc := 1) dX10_points_1 rfl ?_
  refine K_Vn1r (pc := 2) (k' := (0, 0)) mok_X10_asks lk_X10_160 hS.1 rfl rfl rfl (aok0 rfl) dX10_points_2 (C_asksX hS _ hn hx) rfl ?_
  refine G_if_eqN (pc := 5) (tgt := 29) (by omega) dX10_points_5 (by decide) (fun _ => ?_) (fun h => absurd h (by decide))
  refine G_iconst (pc := 29) (v := nI 0) dX10_points_29 (by first | rfl | decide) ?_
  refine G_iret (pc := 30) VZ.n dX10_points_30 rfl ⟨by decide, by decide⟩ ?_
  exact ⟨rfl, rfl⟩
theorem C_pointsN {Γ : GTy} {Y : HS} (hS : MS Y) (F : FT) {f n : Nat} (hf : f < n) (hn : F 10 0 = nI n) (n20 : n ≤ 20) {z : Int32} : Tn Γ M_X10_points [.ref 900000, .int (nI f), .int z] (wM Y F) (rt (some (.int (F 115 (2 * f + if z = 0 then 0 else 1)))) (wM Y (thr F (nI 0)))) := by
  refine Tn_of' rfl rfl rfl ?_
  show G Γ M_X10_points (rm M_X10_points) (Vn Γ M_X10_points (rt (some (.int (F 115 (2 * f + if z = 0 then 0 else 1)))) (wM Y (thr F (nI 0))))) (0, 0) 0 [some (.ref 900000), some (.int (nI f)), some (.int z)] [] (wM Y F)
  refine G_aload_n (pc := 0) dX10_points_0 rfl ?_
  refine G_iload_n (pc := 1) dX10_points_1 rfl ?_
  refine K_Vn1r (pc := 2) (k' := (0, 0)) mok_X10_asks lk_X10_160 hS.1 rfl rfl rfl (aok0 rfl) dX10_points_2 (C_asksN hS _ hf hn n20) rfl ?_
  refine G_if_eqN (pc := 5) (tgt := 29) (by omega) dX10_points_5 (by decide) (fun h => absurd h (by decide)) (fun _ => ?_)
  refine G_aload_n (pc := 8) dX10_points_8 rfl ?_
  refine M_arr (pc := 9) (a := 1900115) hS fl_X10_51 rfl rfl dX10_points_9 ?_
  refine G_iconst (pc := 12) (v := nI 2) dX10_points_12 (by first | rfl | decide) ?_
  refine G_iload_n (pc := 13) dX10_points_13 rfl ?_
  refine G_imulN (pc := 14) dX10_points_14 ?_
  refine G_iload_n (pc := 15) dX10_points_15 rfl ?_
  refine G_if_eq (pc := 16) (tgt := 23) dX10_points_16 (by decide) (fun c16 => ?_) (fun c16 => ?_)
  · skip
    refine G_iconst (pc := 23) (v := nI 0) dX10_points_23 (by first | rfl | decide) ?_
    refine G_iaddN (pc := 24) dX10_points_24 ?_
    refine M_ld (pc := 25) (kk := 15) (j := _) hS rfl rfl rfl (by first | (show 2 * f + 1 < 40; omega) | (show 2 * f + 0 < 40; omega)) dX10_points_25 ?_
    refine G_goto (pc := 26) (tgt := 30) dX10_points_26 (by decide) ?_
    refine G_iret (pc := 30) VZ.n dX10_points_30 rfl ⟨by decide, by decide⟩ ?_
    refine ⟨congrArg (fun i => some (Value.int (F 115 (2 * f + i)))) (a₂ := if z = 0 then 0 else 1) ?_, rfl⟩
    first | exact (if_pos c16).symm | exact (if_neg c16).symm
  · skip
    refine G_iconst (pc := 19) (v := nI 1) dX10_points_19 (by first | rfl | decide) ?_
    refine G_goto (pc := 20) (tgt := 24) dX10_points_20 (by decide) ?_
    refine G_iaddN (pc := 24) dX10_points_24 ?_
    refine M_ld (pc := 25) (kk := 15) (j := _) hS rfl rfl rfl (by first | (show 2 * f + 1 < 40; omega) | (show 2 * f + 0 < 40; omega)) dX10_points_25 ?_
    refine G_goto (pc := 26) (tgt := 30) dX10_points_26 (by decide) ?_
    refine G_iret (pc := 30) VZ.n dX10_points_30 rfl ⟨by decide, by decide⟩ ?_
    refine ⟨congrArg (fun i => some (Value.int (F 115 (2 * f + i)))) (a₂ := if z = 0 then 0 else 1) ?_, rfl⟩
    first | exact (if_pos c16).symm | exact (if_neg c16).symm
theorem C_cellX {Γ : GTy} {Y : HS} (hS : MS Y) (F : FT) {x y : Int32} {n : Nat} (hn : F 10 0 = nI n) (hx : ¬ ((nI 0 ≤ x ∧ x ≤ nI n - nI 1) ∧ (nI 0 ≤ y ∧ y ≤ nI 7))) : Tn Γ M_X10_cell [.ref 900000, .int x, .int y] (wM Y F) (rt (some (.int (nI 0))) (wM Y (thr F (nI 1)))) := by
  refine Tn_of' rfl rfl rfl ?_
  show G Γ M_X10_cell (rm M_X10_cell) (Vn Γ M_X10_cell (rt (some (.int (nI 0))) (wM Y (thr F (nI 1))))) (0, 0) 0 [some (.ref 900000), some (.int x), some (.int y)] [] (wM Y F)
  refine G_aload_n (pc := 0) dX10_cell_0 rfl ?_
  refine G_iload_n (pc := 1) dX10_cell_1 rfl ?_
  refine G_iconst (pc := 2) (v := nI 0) dX10_cell_2 (by first | rfl | decide) ?_
  refine G_aload_n (pc := 3) dX10_cell_3 rfl ?_
  refine M_getv (pc := 4) (kk := 10) (v := nI n) hn hS fl_X10_103 rfl dX10_cell_4 ?_
  refine G_iconst (pc := 7) (v := nI 1) dX10_cell_7 (by first | rfl | decide) ?_
  refine G_isub (pc := 8) dX10_cell_8 ?_
  refine K_Sn3r (pc := 9) (k' := (0, 0)) mok_X10_isIn lk_X10_75 rfl (aok0 rfl) dX10_cell_9 (C_isIn _ _ _ _) rfl ?_
  refine G_if_eqB (pc := 12) (tgt := 29) dX10_cell_12 (by decide) (fun c12 => ?_) (fun c12 => ?_)
  · skip
    refine G_iconst (pc := 29) (v := nI 1) dX10_cell_29 (by first | rfl | decide) ?_
    refine M_put (pc := 30) hS fl_X10_72 fw_9_25 rfl dX10_cell_30 ?_
    refine G_aload_n (pc := 33) dX10_cell_33 rfl ?_
    refine M_get (pc := 34) hS fl_X10_72 rfl dX10_cell_34 ?_
    show G _ _ _ _ _ _ _ (.int (nI 1) :: _) _
    refine G_if_leN (pc := 37) (tgt := 44) (by omega) dX10_cell_37 (by decide) (fun h => absurd h (by decide)) (fun _ => ?_)
    refine G_iconst (pc := 40) (v := nI 0) dX10_cell_40 (by first | rfl | decide) ?_
    refine G_goto (pc := 41) (tgt := 55) dX10_cell_41 (by decide) ?_
    refine G_iret (pc := 55) VZ.n dX10_cell_55 rfl ⟨by decide, by decide⟩ ?_
    exact ⟨rfl, rfl⟩
  · skip
    refine G_iload_n (pc := 15) dX10_cell_15 rfl ?_
    refine G_iconst (pc := 16) (v := nI 0) dX10_cell_16 (by first | rfl | decide) ?_
    refine G_bipush (pc := 17) (v := nI 7) dX10_cell_17 (by first | rfl | decide) ?_
    refine K_Sn3r (pc := 19) (k' := (0, 0)) mok_X10_isIn lk_X10_75 rfl (aok0 rfl) dX10_cell_19 (C_isIn _ _ _ _) rfl ?_
    refine G_if_eqB (pc := 22) (tgt := 29) dX10_cell_22 (by decide) (fun c22 => ?_) (fun c22 => ?_)
    · skip
      refine G_iconst (pc := 29) (v := nI 1) dX10_cell_29 (by first | rfl | decide) ?_
      refine M_put (pc := 30) hS fl_X10_72 fw_9_25 rfl dX10_cell_30 ?_
      refine G_aload_n (pc := 33) dX10_cell_33 rfl ?_
      refine M_get (pc := 34) hS fl_X10_72 rfl dX10_cell_34 ?_
      show G _ _ _ _ _ _ _ (.int (nI 1) :: _) _
      refine G_if_leN (pc := 37) (tgt := 44) (by omega) dX10_cell_37 (by decide) (fun h => absurd h (by decide)) (fun _ => ?_)
      refine G_iconst (pc := 40) (v := nI 0) dX10_cell_40 (by first | rfl | decide) ?_
      refine G_goto (pc := 41) (tgt := 55) dX10_cell_41 (by decide) ?_
      refine G_iret (pc := 55) VZ.n dX10_cell_55 rfl ⟨by decide, by decide⟩ ?_
      exact ⟨rfl, rfl⟩
    · exact absurd ⟨c12, c22⟩ hx
theorem C_cellN {Γ : GTy} {Y : HS} (hS : MS Y) (F : FT) {f b n : Nat} (hf : f < n) (hb : b < 8) (hn : F 10 0 = nI n) (n20 : n ≤ 20) : Tn Γ M_X10_cell [.ref 900000, .int (nI f), .int (nI b)] (wM Y F) (rt (some (.int (F 118 (8 * f + b)))) (wM Y (thr F (nI 0)))) := by
  refine Tn_of' rfl rfl rfl ?_
  show G Γ M_X10_cell (rm M_X10_cell) (Vn Γ M_X10_cell (rt (some (.int (F 118 (8 * f + b)))) (wM Y (thr F (nI 0))))) (0, 0) 0 [some (.ref 900000), some (.int (nI f)), some (.int (nI b))] [] (wM Y F)
  refine G_aload_n (pc := 0) dX10_cell_0 rfl ?_
  refine G_iload_n (pc := 1) dX10_cell_1 rfl ?_
  refine G_iconst (pc := 2) (v := nI 0) dX10_cell_2 (by first | rfl | decide) ?_
  refine G_aload_n (pc := 3) dX10_cell_3 rfl ?_
  refine M_getv (pc := 4) (kk := 10) (v := nI n) hn hS fl_X10_103 rfl dX10_cell_4 ?_
  refine G_iconst (pc := 7) (v := nI 1) dX10_cell_7 (by first | rfl | decide) ?_
  refine G_isub (pc := 8) dX10_cell_8 ?_
  refine K_Sn3r (pc := 9) (k' := (0, 0)) mok_X10_isIn lk_X10_75 rfl (aok0 rfl) dX10_cell_9 (C_isIn _ _ _ _) rfl ?_
  refine G_if_eqB (pc := 12) (tgt := 29) dX10_cell_12 (by decide) (fun c12 => ?_) (fun c12 => ?_)
  · exact absurd (asks_in hf (by omega)) c12
  · skip
    refine G_iload_n (pc := 15) dX10_cell_15 rfl ?_
    refine G_iconst (pc := 16) (v := nI 0) dX10_cell_16 (by first | rfl | decide) ?_
    refine G_bipush (pc := 17) (v := nI 7) dX10_cell_17 (by first | rfl | decide) ?_
    refine K_Sn3r (pc := 19) (k' := (0, 0)) mok_X10_isIn lk_X10_75 rfl (aok0 rfl) dX10_cell_19 (C_isInN (by omega) (by decide) _) rfl ?_
    refine G_if_eqN (pc := 22) (tgt := 29) (by omega) dX10_cell_22 (by decide) (fun h => absurd h (by decide)) (fun _ => ?_)
    refine G_iconst (pc := 25) (v := nI 0) dX10_cell_25 (by first | rfl | decide) ?_
    refine G_goto (pc := 26) (tgt := 30) dX10_cell_26 (by decide) ?_
    refine M_put (pc := 30) hS fl_X10_72 fw_9_25 rfl dX10_cell_30 ?_
    refine G_aload_n (pc := 33) dX10_cell_33 rfl ?_
    refine M_get (pc := 34) hS fl_X10_72 rfl dX10_cell_34 ?_
    show G _ _ _ _ _ _ _ (.int (nI 0) :: _) _
    refine G_if_leN (pc := 37) (tgt := 44) (by omega) dX10_cell_37 (by decide) (fun _ => ?_) (fun h => absurd h (by decide))
    refine G_aload_n (pc := 44) dX10_cell_44 rfl ?_
    refine M_arr (pc := 45) (a := 1900118) hS fl_X10_60 rfl rfl dX10_cell_45 ?_
    refine G_bipush (pc := 48) (v := nI 8) dX10_cell_48 (by first | rfl | decide) ?_
    refine G_iload_n (pc := 50) dX10_cell_50 rfl ?_
    refine G_imulN (pc := 51) dX10_cell_51 ?_
    refine G_iload_n (pc := 52) dX10_cell_52 rfl ?_
    refine G_iaddN (pc := 53) dX10_cell_53 ?_
    refine M_ldv (pc := 54) (kk := 18) (j := 8 * f + b) (v := F 118 (8 * f + b)) rfl hS rfl rfl rfl (show 8 * f + b < 160 by omega) dX10_cell_54 ?_
    refine G_iret (pc := 55) VZ.n dX10_cell_55 rfl ⟨by decide, by decide⟩ ?_
    exact ⟨rfl, rfl⟩
theorem C_winsX {Γ : GTy} {Y : HS} (hS : MS Y) (F : FT) {x : Int32} (hx : ¬ (nI 0 ≤ x ∧ x ≤ nI 7)) : Tn Γ M_X10_wins [.ref 900000, .int x] (wM Y F) (rt (some (.int (nI 0))) (wM Y (thr F (nI 1)))) := by
  refine Tn_of' rfl rfl rfl ?_
  show G Γ M_X10_wins (rm M_X10_wins) (Vn Γ M_X10_wins (rt (some (.int (nI 0))) (wM Y (thr F (nI 1))))) (0, 0) 0 [some (.ref 900000), some (.int x)] [] (wM Y F)
  refine G_aload_n (pc := 0) dX10_wins_0 rfl ?_
  refine G_iload_n (pc := 1) dX10_wins_1 rfl ?_
  refine K_Sn1r (pc := 2) (k' := (0, 0)) mok_X10_isCustomer lk_X10_83 rfl (aok0 rfl) dX10_wins_2 (C_isCustomer _ _) rfl ?_
  refine G_if_eqB (pc := 5) (tgt := 12) dX10_wins_5 (by decide) (fun c5 => ?_) (fun c5 => ?_)
  · skip
    refine G_iconst (pc := 12) (v := nI 1) dX10_wins_12 (by first | rfl | decide) ?_
    refine M_put (pc := 13) hS fl_X10_72 fw_9_25 rfl dX10_wins_13 ?_
    refine G_aload_n (pc := 16) dX10_wins_16 rfl ?_
    refine M_get (pc := 17) hS fl_X10_72 rfl dX10_wins_17 ?_
    show G _ _ _ _ _ _ _ (.int (nI 1) :: _) _
    refine G_if_leN (pc := 20) (tgt := 27) (by omega) dX10_wins_20 (by decide) (fun h => absurd h (by decide)) (fun _ => ?_)
    refine G_iconst (pc := 23) (v := nI 0) dX10_wins_23 (by first | rfl | decide) ?_
    refine G_goto (pc := 24) (tgt := 32) dX10_wins_24 (by decide) ?_
    refine G_iret (pc := 32) VZ.n dX10_wins_32 rfl ⟨by decide, by decide⟩ ?_
    exact ⟨rfl, rfl⟩
  · exact absurd c5 hx
theorem C_cueOfX {Γ : GTy} {Y : HS} (hS : MS Y) (F : FT) {x : Int32} (hx : ¬ (nI 0 ≤ x ∧ x ≤ nI 7)) : Tn Γ M_X10_cueOf [.ref 900000, .int x] (wM Y F) (rt (some (.int (nI 0))) (wM Y (thr F (nI 1)))) := by
  refine Tn_of' rfl rfl rfl ?_
  show G Γ M_X10_cueOf (rm M_X10_cueOf) (Vn Γ M_X10_cueOf (rt (some (.int (nI 0))) (wM Y (thr F (nI 1))))) (0, 0) 0 [some (.ref 900000), some (.int x)] [] (wM Y F)
  refine G_aload_n (pc := 0) dX10_cueOf_0 rfl ?_
  refine G_iload_n (pc := 1) dX10_cueOf_1 rfl ?_
  refine K_Sn1r (pc := 2) (k' := (0, 0)) mok_X10_isCustomer lk_X10_83 rfl (aok0 rfl) dX10_cueOf_2 (C_isCustomer _ _) rfl ?_
  refine G_if_eqB (pc := 5) (tgt := 12) dX10_cueOf_5 (by decide) (fun c5 => ?_) (fun c5 => ?_)
  · skip
    refine G_iconst (pc := 12) (v := nI 1) dX10_cueOf_12 (by first | rfl | decide) ?_
    refine M_put (pc := 13) hS fl_X10_72 fw_9_25 rfl dX10_cueOf_13 ?_
    refine G_aload_n (pc := 16) dX10_cueOf_16 rfl ?_
    refine M_get (pc := 17) hS fl_X10_72 rfl dX10_cueOf_17 ?_
    show G _ _ _ _ _ _ _ (.int (nI 1) :: _) _
    refine G_if_leN (pc := 20) (tgt := 27) (by omega) dX10_cueOf_20 (by decide) (fun h => absurd h (by decide)) (fun _ => ?_)
    refine G_iconst (pc := 23) (v := nI 0) dX10_cueOf_23 (by first | rfl | decide) ?_
    refine G_goto (pc := 24) (tgt := 32) dX10_cueOf_24 (by decide) ?_
    refine G_iret (pc := 32) VZ.n dX10_cueOf_32 rfl ⟨by decide, by decide⟩ ?_
    exact ⟨rfl, rfl⟩
  · exact absurd c5 hx
theorem C_winsN {Γ : GTy} {Y : HS} (hS : MS Y) (F : FT) {c n : Nat} (hc : c < 8) (hn : F 10 0 = nI n) (n20 : n ≤ 20) : Tn Γ M_X10_wins [.ref 900000, .int (nI c)] (wM Y F) (rt (some (.int (nI (wN F n c)))) (wM Y (thr F (nI 0)))) := by
  refine Tn_of' rfl rfl rfl ?_
  show G Γ M_X10_wins (rm M_X10_wins) (Vn Γ M_X10_wins (rt (some (.int (nI (wN F n c)))) (wM Y (thr F (nI 0))))) (0, 0) 0 [some (.ref 900000), some (.int (nI c))] [] (wM Y F)
  refine G_aload_n (pc := 0) dX10_wins_0 rfl ?_
  refine G_iload_n (pc := 1) dX10_wins_1 rfl ?_
  refine K_Sn1r (pc := 2) (k' := (0, 0)) mok_X10_isCustomer lk_X10_83 rfl (aok0 rfl) dX10_wins_2 (C_isCustomerN hc _) rfl ?_
  refine G_if_eqN (pc := 5) (tgt := 12) (by omega) dX10_wins_5 (by decide) (fun h => absurd h (by decide)) (fun _ => ?_)
  refine G_iconst (pc := 8) (v := nI 0) dX10_wins_8 (by first | rfl | decide) ?_
  refine G_goto (pc := 9) (tgt := 13) dX10_wins_9 (by decide) ?_
  refine M_put (pc := 13) hS fl_X10_72 fw_9_25 rfl dX10_wins_13 ?_
  refine G_aload_n (pc := 16) dX10_wins_16 rfl ?_
  refine M_get (pc := 17) hS fl_X10_72 rfl dX10_wins_17 ?_
  show G _ _ _ _ _ _ _ (.int (nI 0) :: _) _
  refine G_if_leN (pc := 20) (tgt := 27) (by omega) dX10_wins_20 (by decide) (fun _ => ?_) (fun h => absurd h (by decide))
  refine G_aload_n (pc := 27) dX10_wins_27 rfl ?_
  refine G_iload_n (pc := 28) dX10_wins_28 rfl ?_
  refine K_Vn1r (pc := 29) (k' := (0, 0)) mok_X10_winsOf lk_X10_187 hS.1 rfl rfl rfl (aok0 rfl) dX10_wins_29 (C_winsOf hS _ hn n20) rfl ?_
  refine G_iret (pc := 32) VZ.n dX10_wins_32 rfl ⟨by decide, by decide⟩ ?_
  exact ⟨rfl, rfl⟩
theorem C_cueOfN {Γ : GTy} {Y : HS} (hS : MS Y) (F : FT) {c : Nat} (hc : c < 8) : Tn Γ M_X10_cueOf [.ref 900000, .int (nI c)] (wM Y F) (rt (some (.int (lastW (fun k => F 107 k = nI (c + 1)) 6))) (wM Y (thr F (nI 0)))) := by
  refine Tn_of' rfl rfl rfl ?_
  show G Γ M_X10_cueOf (rm M_X10_cueOf) (Vn Γ M_X10_cueOf (rt (some (.int (lastW (fun k => F 107 k = nI (c + 1)) 6))) (wM Y (thr F (nI 0))))) (0, 0) 0 [some (.ref 900000), some (.int (nI c))] [] (wM Y F)
  refine G_aload_n (pc := 0) dX10_cueOf_0 rfl ?_
  refine G_iload_n (pc := 1) dX10_cueOf_1 rfl ?_
  refine K_Sn1r (pc := 2) (k' := (0, 0)) mok_X10_isCustomer lk_X10_83 rfl (aok0 rfl) dX10_cueOf_2 (C_isCustomerN hc _) rfl ?_
  refine G_if_eqN (pc := 5) (tgt := 12) (by omega) dX10_cueOf_5 (by decide) (fun h => absurd h (by decide)) (fun _ => ?_)
  refine G_iconst (pc := 8) (v := nI 0) dX10_cueOf_8 (by first | rfl | decide) ?_
  refine G_goto (pc := 9) (tgt := 13) dX10_cueOf_9 (by decide) ?_
  refine M_put (pc := 13) hS fl_X10_72 fw_9_25 rfl dX10_cueOf_13 ?_
  refine G_aload_n (pc := 16) dX10_cueOf_16 rfl ?_
  refine M_get (pc := 17) hS fl_X10_72 rfl dX10_cueOf_17 ?_
  show G _ _ _ _ _ _ _ (.int (nI 0) :: _) _
  refine G_if_leN (pc := 20) (tgt := 27) (by omega) dX10_cueOf_20 (by decide) (fun _ => ?_) (fun h => absurd h (by decide))
  refine G_aload_n (pc := 27) dX10_cueOf_27 rfl ?_
  refine G_iload_n (pc := 28) dX10_cueOf_28 rfl ?_
  refine K_Vn1r (pc := 29) (k' := (0, 0)) mok_X10_cueWith lk_X10_144 hS.1 rfl rfl rfl (aok0 rfl) dX10_cueOf_29 (C_cueWith hS _ _) rfl ?_
  refine G_iret (pc := 32) VZ.n dX10_cueOf_32 rfl ⟨by decide, by decide⟩ ?_
  exact ⟨rfl, rfl⟩
theorem C_wearX {Γ : GTy} {Y : HS} (hS : MS Y) (F : FT) {x : Int32} (hx : ¬ (nI 0 ≤ x ∧ x ≤ nI 5)) : Tn Γ M_X10_wear [.ref 900000, .int x] (wM Y F) (rt (some (.int (nI 0))) (wM Y (thr F (nI 1)))) := by
  refine Tn_of' rfl rfl rfl ?_
  show G Γ M_X10_wear (rm M_X10_wear) (Vn Γ M_X10_wear (rt (some (.int (nI 0))) (wM Y (thr F (nI 1))))) (0, 0) 0 [some (.ref 900000), some (.int x)] [] (wM Y F)
  refine G_aload_n (pc := 0) dX10_wear_0 rfl ?_
  refine G_iload_n (pc := 1) dX10_wear_1 rfl ?_
  refine K_Sn1r (pc := 2) (k' := (0, 0)) mok_X10_isCue lk_X10_177 rfl (aok0 rfl) dX10_wear_2 (C_isCue _ _) rfl ?_
  refine G_if_eqB (pc := 5) (tgt := 12) dX10_wear_5 (by decide) (fun c5 => ?_) (fun c5 => ?_)
  · skip
    refine G_iconst (pc := 12) (v := nI 1) dX10_wear_12 (by first | rfl | decide) ?_
    refine M_put (pc := 13) hS fl_X10_72 fw_9_25 rfl dX10_wear_13 ?_
    refine G_aload_n (pc := 16) dX10_wear_16 rfl ?_
    refine M_get (pc := 17) hS fl_X10_72 rfl dX10_wear_17 ?_
    show G _ _ _ _ _ _ _ (.int (nI 1) :: _) _
    refine G_if_leN (pc := 20) (tgt := 27) (by omega) dX10_wear_20 (by decide) (fun h => absurd h (by decide)) (fun _ => ?_)
    refine G_iconst (pc := 23) (v := nI 0) dX10_wear_23 (by first | rfl | decide) ?_
    refine G_goto (pc := 24) (tgt := 33) dX10_wear_24 (by decide) ?_
    refine G_iret (pc := 33) VZ.n dX10_wear_33 rfl ⟨by decide, by decide⟩ ?_
    exact ⟨rfl, rfl⟩
  · exact absurd c5 hx
theorem C_wearN {Γ : GTy} {Y : HS} (hS : MS Y) (F : FT) {u : Nat} (hu : u < 6) : Tn Γ M_X10_wear [.ref 900000, .int (nI u)] (wM Y F) (rt (some (.int (F 108 u))) (wM Y (thr F (nI 0)))) := by
  refine Tn_of' rfl rfl rfl ?_
  show G Γ M_X10_wear (rm M_X10_wear) (Vn Γ M_X10_wear (rt (some (.int (F 108 u))) (wM Y (thr F (nI 0))))) (0, 0) 0 [some (.ref 900000), some (.int (nI u))] [] (wM Y F)
  refine G_aload_n (pc := 0) dX10_wear_0 rfl ?_
  refine G_iload_n (pc := 1) dX10_wear_1 rfl ?_
  refine K_Sn1r (pc := 2) (k' := (0, 0)) mok_X10_isCue lk_X10_177 rfl (aok0 rfl) dX10_wear_2 (C_isCueN hu _) rfl ?_
  refine G_if_eqN (pc := 5) (tgt := 12) (by omega) dX10_wear_5 (by decide) (fun h => absurd h (by decide)) (fun _ => ?_)
  refine G_iconst (pc := 8) (v := nI 0) dX10_wear_8 (by first | rfl | decide) ?_
  refine G_goto (pc := 9) (tgt := 13) dX10_wear_9 (by decide) ?_
  refine M_put (pc := 13) hS fl_X10_72 fw_9_25 rfl dX10_wear_13 ?_
  refine G_aload_n (pc := 16) dX10_wear_16 rfl ?_
  refine M_get (pc := 17) hS fl_X10_72 rfl dX10_wear_17 ?_
  show G _ _ _ _ _ _ _ (.int (nI 0) :: _) _
  refine G_if_leN (pc := 20) (tgt := 27) (by omega) dX10_wear_20 (by decide) (fun _ => ?_) (fun h => absurd h (by decide))
  refine G_aload_n (pc := 27) dX10_wear_27 rfl ?_
  refine M_arr (pc := 28) (a := 1900108) hS fl_X10_33 rfl rfl dX10_wear_28 ?_
  refine G_iload_n (pc := 31) dX10_wear_31 rfl ?_
  refine M_ldv (pc := 32) (kk := 8) (j := u) (v := F 108 u) rfl hS rfl rfl rfl hu dX10_wear_32 ?_
  refine G_iret (pc := 33) VZ.n dX10_wear_33 rfl ⟨by decide, by decide⟩ ?_
  exact ⟨rfl, rfl⟩
theorem C_force1 {Γ : GTy} {Y : HS} (hS : MS Y) (F : FT) {x p : Int32} (hx : ¬ (nI 0 ≤ x ∧ x ≤ nI 7)) : Tn Γ M_X10_force [.ref 900000, .int x, .int p] (wM Y F) (rt (some (.int (nI 0))) (wM Y (thr F (nI 1)))) := by
  refine Tn_of' rfl rfl rfl ?_
  show G Γ M_X10_force (rm M_X10_force) (Vn Γ M_X10_force (rt (some (.int (nI 0))) (wM Y (thr F (nI 1))))) (0, 0) 0 [some (.ref 900000), some (.int x), some (.int p)] [] (wM Y F)
  refine G_aload_n (pc := 0) dX10_force_0 rfl ?_
  refine G_iload_n (pc := 1) dX10_force_1 rfl ?_
  refine K_Sn1r (pc := 2) (k' := (0, 0)) mok_X10_isCustomer lk_X10_83 rfl (aok0 rfl) dX10_force_2 (C_isCustomer _ _) rfl ?_
  refine G_if_neB (pc := 5) (tgt := 12) dX10_force_5 (by decide) (fun c5 => ?_) (fun c5 => ?_)
  · exact absurd c5 hx
  · skip
    refine G_iconst (pc := 8) (v := nI 1) dX10_force_8 (by first | rfl | decide) ?_
    refine G_goto (pc := 9) (tgt := 27) dX10_force_9 (by decide) ?_
    refine M_put (pc := 27) hS fl_X10_72 fw_9_25 rfl dX10_force_27 ?_
    refine G_aload_n (pc := 30) dX10_force_30 rfl ?_
    refine M_get (pc := 31) hS fl_X10_72 rfl dX10_force_31 ?_
    show G _ _ _ _ _ _ _ (.int (nI 1) :: _) _
    refine G_if_leN (pc := 34) (tgt := 41) (by omega) dX10_force_34 (by decide) (fun h => absurd h (by decide)) (fun _ => ?_)
    refine G_iconst (pc := 37) (v := nI 0) dX10_force_37 (by first | rfl | decide) ?_
    refine G_goto (pc := 38) (tgt := 47) dX10_force_38 (by decide) ?_
    refine G_iret (pc := 47) VZ.n dX10_force_47 rfl ⟨by decide, by decide⟩ ?_
    exact ⟨rfl, rfl⟩
theorem C_force2 {Γ : GTy} {Y : HS} (hS : MS Y) (F : FT) {c : Nat} {p : Int32} (hc : c < 8) (hp : ¬ (nI 1 ≤ p ∧ p ≤ nI 40)) : Tn Γ M_X10_force [.ref 900000, .int (nI c), .int p] (wM Y F) (rt (some (.int (nI 0))) (wM Y (thr F (nI 2)))) := by
  refine Tn_of' rfl rfl rfl ?_
  show G Γ M_X10_force (rm M_X10_force) (Vn Γ M_X10_force (rt (some (.int (nI 0))) (wM Y (thr F (nI 2))))) (0, 0) 0 [some (.ref 900000), some (.int (nI c)), some (.int p)] [] (wM Y F)
  refine G_aload_n (pc := 0) dX10_force_0 rfl ?_
  refine G_iload_n (pc := 1) dX10_force_1 rfl ?_
  refine K_Sn1r (pc := 2) (k' := (0, 0)) mok_X10_isCustomer lk_X10_83 rfl (aok0 rfl) dX10_force_2 (C_isCustomerN hc _) rfl ?_
  refine G_if_neN (pc := 5) (tgt := 12) (by omega) dX10_force_5 (by decide) (fun _ => ?_) (fun h => absurd h (by decide))
  refine G_iload_n (pc := 12) dX10_force_12 rfl ?_
  refine G_iconst (pc := 13) (v := nI 1) dX10_force_13 (by first | rfl | decide) ?_
  refine G_bipush (pc := 14) (v := nI 40) dX10_force_14 (by first | rfl | decide) ?_
  refine K_Sn3r (pc := 16) (k' := (0, 0)) mok_X10_isIn lk_X10_75 rfl (aok0 rfl) dX10_force_16 (C_isIn _ _ _ _) rfl ?_
  refine G_if_eqB (pc := 19) (tgt := 26) dX10_force_19 (by decide) (fun c19 => ?_) (fun c19 => ?_)
  · skip
    refine G_iconst (pc := 26) (v := nI 2) dX10_force_26 (by first | rfl | decide) ?_
    refine M_put (pc := 27) hS fl_X10_72 fw_9_25 rfl dX10_force_27 ?_
    refine G_aload_n (pc := 30) dX10_force_30 rfl ?_
    refine M_get (pc := 31) hS fl_X10_72 rfl dX10_force_31 ?_
    show G _ _ _ _ _ _ _ (.int (nI 2) :: _) _
    refine G_if_leN (pc := 34) (tgt := 41) (by omega) dX10_force_34 (by decide) (fun h => absurd h (by decide)) (fun _ => ?_)
    refine G_iconst (pc := 37) (v := nI 0) dX10_force_37 (by first | rfl | decide) ?_
    refine G_goto (pc := 38) (tgt := 47) dX10_force_38 (by decide) ?_
    refine G_iret (pc := 47) VZ.n dX10_force_47 rfl ⟨by decide, by decide⟩ ?_
    exact ⟨rfl, rfl⟩
  · exact absurd c19 hp
theorem C_forceN0 {Γ : GTy} {Y : HS} (hS : MS Y) (F : FT) {c : Nat} {p : Int32} (hc : c < 8) (hp : nI 1 ≤ p ∧ p ≤ nI 40) (h : (lastW (fun k => F 107 k = nI (c + 1)) 6) = -1) : Tn Γ M_X10_force [.ref 900000, .int (nI c), .int p] (wM Y F) (rt (some (.int (clip1 (nI 3 * p / nI 4)))) (wM Y (thr F (nI 0)))) := by
  refine Tn_of' rfl rfl rfl ?_
  show G Γ M_X10_force (rm M_X10_force) (Vn Γ M_X10_force (rt (some (.int (clip1 (nI 3 * p / nI 4)))) (wM Y (thr F (nI 0))))) (0, 0) 0 [some (.ref 900000), some (.int (nI c)), some (.int p)] [] (wM Y F)
  refine G_aload_n (pc := 0) dX10_force_0 rfl ?_
  refine G_iload_n (pc := 1) dX10_force_1 rfl ?_
  refine K_Sn1r (pc := 2) (k' := (0, 0)) mok_X10_isCustomer lk_X10_83 rfl (aok0 rfl) dX10_force_2 (C_isCustomerN hc _) rfl ?_
  refine G_if_neN (pc := 5) (tgt := 12) (by omega) dX10_force_5 (by decide) (fun _ => ?_) (fun h => absurd h (by decide))
  refine G_iload_n (pc := 12) dX10_force_12 rfl ?_
  refine G_iconst (pc := 13) (v := nI 1) dX10_force_13 (by first | rfl | decide) ?_
  refine G_bipush (pc := 14) (v := nI 40) dX10_force_14 (by first | rfl | decide) ?_
  refine K_Sn3r (pc := 16) (k' := (0, 0)) mok_X10_isIn lk_X10_75 rfl (aok0 rfl) dX10_force_16 (C_isIn _ _ _ _) rfl ?_
  refine G_if_eqB (pc := 19) (tgt := 26) dX10_force_19 (by decide) (fun c19 => ?_) (fun c19 => ?_)
  · exact absurd hp c19
  · skip
    refine G_iconst (pc := 22) (v := nI 0) dX10_force_22 (by first | rfl | decide) ?_
    refine G_goto (pc := 23) (tgt := 27) dX10_force_23 (by decide) ?_
    refine M_put (pc := 27) hS fl_X10_72 fw_9_25 rfl dX10_force_27 ?_
    refine G_aload_n (pc := 30) dX10_force_30 rfl ?_
    refine M_get (pc := 31) hS fl_X10_72 rfl dX10_force_31 ?_
    show G _ _ _ _ _ _ _ (.int (nI 0) :: _) _
    refine G_if_leN (pc := 34) (tgt := 41) (by omega) dX10_force_34 (by decide) (fun _ => ?_) (fun h => absurd h (by decide))
    refine G_aload_n (pc := 41) dX10_force_41 rfl ?_
    refine G_iload_n (pc := 42) dX10_force_42 rfl ?_
    refine G_iload_n (pc := 43) dX10_force_43 rfl ?_
    refine K_Vn2r (pc := 44) (k' := (0, 0)) mok_X10_forceOf lk_X10_163 hS.1 rfl rfl rfl (aok0 rfl) dX10_force_44 (C_forceOf0 hS _ h) rfl ?_
    refine G_iret (pc := 47) VZ.n dX10_force_47 rfl ⟨by decide, by decide⟩ ?_
    exact ⟨rfl, rfl⟩
theorem C_forceN1 {Γ : GTy} {Y : HS} (hS : MS Y) (F : FT) {c : Nat} {p : Int32} (hc : c < 8) (hp : nI 1 ≤ p ∧ p ≤ nI 40) {u : Nat} (h : (lastW (fun k => F 107 k = nI (c + 1)) 6) = nI u) (hu : u < 6) : Tn Γ M_X10_force [.ref 900000, .int (nI c), .int p] (wM Y F) (rt (some (.int (clip1 (p * (nI 200 - F 108 u) / nI 200)))) (wM Y (thr F (nI 0)))) := by
  refine Tn_of' rfl rfl rfl ?_
  show G Γ M_X10_force (rm M_X10_force) (Vn Γ M_X10_force (rt (some (.int (clip1 (p * (nI 200 - F 108 u) / nI 200)))) (wM Y (thr F (nI 0))))) (0, 0) 0 [some (.ref 900000), some (.int (nI c)), some (.int p)] [] (wM Y F)
  refine G_aload_n (pc := 0) dX10_force_0 rfl ?_
  refine G_iload_n (pc := 1) dX10_force_1 rfl ?_
  refine K_Sn1r (pc := 2) (k' := (0, 0)) mok_X10_isCustomer lk_X10_83 rfl (aok0 rfl) dX10_force_2 (C_isCustomerN hc _) rfl ?_
  refine G_if_neN (pc := 5) (tgt := 12) (by omega) dX10_force_5 (by decide) (fun _ => ?_) (fun h => absurd h (by decide))
  refine G_iload_n (pc := 12) dX10_force_12 rfl ?_
  refine G_iconst (pc := 13) (v := nI 1) dX10_force_13 (by first | rfl | decide) ?_
  refine G_bipush (pc := 14) (v := nI 40) dX10_force_14 (by first | rfl | decide) ?_
  refine K_Sn3r (pc := 16) (k' := (0, 0)) mok_X10_isIn lk_X10_75 rfl (aok0 rfl) dX10_force_16 (C_isIn _ _ _ _) rfl ?_
  refine G_if_eqB (pc := 19) (tgt := 26) dX10_force_19 (by decide) (fun c19 => ?_) (fun c19 => ?_)
  · exact absurd hp c19
  · skip
    refine G_iconst (pc := 22) (v := nI 0) dX10_force_22 (by first | rfl | decide) ?_
    refine G_goto (pc := 23) (tgt := 27) dX10_force_23 (by decide) ?_
    refine M_put (pc := 27) hS fl_X10_72 fw_9_25 rfl dX10_force_27 ?_
    refine G_aload_n (pc := 30) dX10_force_30 rfl ?_
    refine M_get (pc := 31) hS fl_X10_72 rfl dX10_force_31 ?_
    show G _ _ _ _ _ _ _ (.int (nI 0) :: _) _
    refine G_if_leN (pc := 34) (tgt := 41) (by omega) dX10_force_34 (by decide) (fun _ => ?_) (fun h => absurd h (by decide))
    refine G_aload_n (pc := 41) dX10_force_41 rfl ?_
    refine G_iload_n (pc := 42) dX10_force_42 rfl ?_
    refine G_iload_n (pc := 43) dX10_force_43 rfl ?_
    refine K_Vn2r (pc := 44) (k' := (0, 0)) mok_X10_forceOf lk_X10_163 hS.1 rfl rfl rfl (aok0 rfl) dX10_force_44 (C_forceOf1 hS _ h hu) rfl ?_
    refine G_iret (pc := 47) VZ.n dX10_force_47 rfl ⟨by decide, by decide⟩ ?_
    exact ⟨rfl, rfl⟩
theorem C_rankX {Γ : GTy} {Y : HS} (hS : MS Y) (F : FT) {x : Int32} (hx : ¬ (nI 0 ≤ x ∧ x ≤ nI 7)) : Tn Γ M_X10_rank [.ref 900000, .int x] (wM Y F) (rt (some (.int (nI 0))) (wM Y (thr F (nI 1)))) := by
  refine Tn_of' rfl rfl rfl ?_
  show G Γ M_X10_rank (rm M_X10_rank) (Vn Γ M_X10_rank (rt (some (.int (nI 0))) (wM Y (thr F (nI 1))))) (0, 0) 0 [some (.ref 900000), some (.int x), none, none] [] (wM Y F)
  refine G_aload_n (pc := 0) dX10_rank_0 rfl ?_
  refine G_iload_n (pc := 1) dX10_rank_1 rfl ?_
  refine K_Sn1r (pc := 2) (k' := (0, 0)) mok_X10_isCustomer lk_X10_83 rfl (aok0 rfl) dX10_rank_2 (C_isCustomer _ _) rfl ?_
  refine G_if_eqB (pc := 5) (tgt := 12) dX10_rank_5 (by decide) (fun c5 => ?_) (fun c5 => ?_)
  · skip
    refine G_iconst (pc := 12) (v := nI 1) dX10_rank_12 (by first | rfl | decide) ?_
    refine M_put (pc := 13) hS fl_X10_72 fw_9_25 rfl dX10_rank_13 ?_
    refine G_iconst (pc := 16) (v := nI 0) dX10_rank_16 (by first | rfl | decide) ?_
    refine G_istore_n (pc := 17) dX10_rank_17 (by decide) ?_
    refine G_iconst (pc := 18) (v := nI 0) dX10_rank_18 (by first | rfl | decide) ?_
    refine G_istore_n (pc := 19) dX10_rank_19 (by decide) ?_
    refine G_iload_n (pc := 20) dX10_rank_20 rfl ?_
    refine G_bipush (pc := 21) (v := nI 8) dX10_rank_21 (by first | rfl | decide) ?_
    refine G_icmp_geN (pc := 23) (tgt := 60) (by omega) (by omega) dX10_rank_23 (by decide) (fun h => absurd h (by decide)) (fun _ => ?_)
    refine G_aload_n (pc := 26) dX10_rank_26 rfl ?_
    refine M_get (pc := 27) hS fl_X10_72 rfl dX10_rank_27 ?_
    show G _ _ _ _ _ _ _ (.int (nI 1) :: _) _
    refine G_if_neN (pc := 30) (tgt := 60) (by omega) dX10_rank_30 (by decide) (fun _ => ?_) (fun h => absurd h (by decide))
    refine G_iload_n (pc := 60) dX10_rank_60 rfl ?_
    refine G_iret (pc := 61) VZ.n dX10_rank_61 rfl ⟨by decide, by decide⟩ ?_
    exact ⟨rfl, rfl⟩
  · exact absurd c5 hx
theorem C_rankN {Γ : GTy} {Y : HS} (hS : MS Y) (F : FT) {c n : Nat} (hc : c < 8) (hn : F 10 0 = nI n) (n20 : n ≤ 20) : Tn Γ M_X10_rank [.ref 900000, .int (nI c)] (wM Y F) (rt (some (.int (nI (cnt (fun k => wN F n c < wN F n k) 8)))) (wM Y (thr F (nI 0)))) := by
  refine Tn_of' rfl rfl rfl ?_
  show G Γ M_X10_rank (rm M_X10_rank) (Vn Γ M_X10_rank (rt (some (.int (nI (cnt (fun k => wN F n c < wN F n k) 8)))) (wM Y (thr F (nI 0))))) (0, 0) 0 [some (.ref 900000), some (.int (nI c)), none, none] [] (wM Y F)
  have loop : ∀ (n9 j : Nat), j + n9 = 8 → G Γ M_X10_rank (rm M_X10_rank) (Vn Γ M_X10_rank (rt (some (.int (nI (cnt (fun k => wN F n c < wN F n k) 8)))) (wM Y (thr F (nI 0))))) (0, 0) 20 [some (.ref 900000), some (.int (nI c)), some (.int (nI (cnt (fun k => wN F n c < wN F n k) j))), some (.int (nI j))] [] (wM Y (thr F (nI 0))) := by
    intro n9
    induction n9 with
    | zero =>
      intro j hj
      obtain rfl : j = 8 := by omega
      refine G_iload_n (pc := 20) dX10_rank_20 rfl ?_
      refine G_bipush (pc := 21) (v := nI 8) dX10_rank_21 (by first | rfl | decide) ?_
      refine G_icmp_geN (pc := 23) (tgt := 60) (by omega) (by omega) dX10_rank_23 (by decide) (fun c23 => ?_) (fun c23 => ?_)
      · skip
        refine G_iload_n (pc := 60) dX10_rank_60 rfl ?_
        refine G_iret (pc := 61) VZ.n dX10_rank_61 rfl ⟨by decide, by decide⟩ ?_
        exact ⟨rfl, rfl⟩
      · omega
    | succ n9 ih =>
      intro j hj
      have hj9 : j < 8 := by omega
      refine G_iload_n (pc := 20) dX10_rank_20 rfl ?_
      refine G_bipush (pc := 21) (v := nI 8) dX10_rank_21 (by first | rfl | decide) ?_
      refine G_icmp_geN (pc := 23) (tgt := 60) (by omega) (by omega) dX10_rank_23 (by decide) (fun c23 => ?_) (fun c23 => ?_)
      · omega
      · skip
        refine G_aload_n (pc := 26) dX10_rank_26 rfl ?_
        refine M_getv (pc := 27) (kk := 25) (v := nI 0) rfl hS fl_X10_72 rfl dX10_rank_27 ?_
        refine G_if_neN (pc := 30) (tgt := 60) (by omega) dX10_rank_30 (by decide) (fun h => absurd h (by decide)) (fun _ => ?_)
        refine G_iload_n (pc := 33) dX10_rank_33 rfl ?_
        refine G_aload_n (pc := 34) dX10_rank_34 rfl ?_
        refine G_iload_n (pc := 35) dX10_rank_35 rfl ?_
        refine K_Vn1r (pc := 36) (k' := (0, 0)) mok_X10_winsOf lk_X10_187 hS.1 rfl rfl rfl (aok0 rfl) dX10_rank_36 (C_winsOf hS _ hn n20) rfl ?_
        refine G_aload_n (pc := 39) dX10_rank_39 rfl ?_
        refine G_iload_n (pc := 40) dX10_rank_40 rfl ?_
        refine K_Vn1r (pc := 41) (k' := (0, 0)) mok_X10_winsOf lk_X10_187 hS.1 rfl rfl rfl (aok0 rfl) dX10_rank_41 (C_winsOf hS _ hn n20) rfl ?_
        have g1 := wN_le (thr F (nI 0)) n c
        have g2 := wN_le (thr F (nI 0)) n j
        refine G_icmp_leN (pc := 44) (tgt := 51) (by omega) (by omega) dX10_rank_44 (by decide) (fun c44 => ?_) (fun c44 => ?_)
        · skip
          refine G_iconst (pc := 51) (v := nI 0) dX10_rank_51 (by first | rfl | decide) ?_
          refine G_iaddN (pc := 52) dX10_rank_52 ?_
          refine G_istore_n (pc := 53) dX10_rank_53 (by decide) ?_
          refine G_iincN (pc := 54) dX10_rank_54 rfl (by decide) ?_
          refine G_goto (pc := 57) (tgt := 20) dX10_rank_57 (by decide) ?_
          have h9 := ih (j + 1) (by omega)
          first
            | (rw [cnt_f (p := (fun k => wN F n c < wN F n k)) (show ¬ wN F n c < wN F n j from Nat.not_lt.mpr c44)] at h9; exact h9)
            | (rw [cnt_t (p := (fun k => wN F n c < wN F n k)) (show wN F n c < wN F n j from c44)] at h9; exact h9)
        · skip
          refine G_iconst (pc := 47) (v := nI 1) dX10_rank_47 (by first | rfl | decide) ?_
          refine G_goto (pc := 48) (tgt := 52) dX10_rank_48 (by decide) ?_
          refine G_iaddN (pc := 52) dX10_rank_52 ?_
          refine G_istore_n (pc := 53) dX10_rank_53 (by decide) ?_
          refine G_iincN (pc := 54) dX10_rank_54 rfl (by decide) ?_
          refine G_goto (pc := 57) (tgt := 20) dX10_rank_57 (by decide) ?_
          have h9 := ih (j + 1) (by omega)
          first
            | (rw [cnt_f (p := (fun k => wN F n c < wN F n k)) (show ¬ wN F n c < wN F n j from Nat.not_lt.mpr c44)] at h9; exact h9)
            | (rw [cnt_t (p := (fun k => wN F n c < wN F n k)) (show wN F n c < wN F n j from c44)] at h9; exact h9)
  refine G_aload_n (pc := 0) dX10_rank_0 rfl ?_
  refine G_iload_n (pc := 1) dX10_rank_1 rfl ?_
  refine K_Sn1r (pc := 2) (k' := (0, 0)) mok_X10_isCustomer lk_X10_83 rfl (aok0 rfl) dX10_rank_2 (C_isCustomerN hc _) rfl ?_
  refine G_if_eqN (pc := 5) (tgt := 12) (by omega) dX10_rank_5 (by decide) (fun h => absurd h (by decide)) (fun _ => ?_)
  refine G_iconst (pc := 8) (v := nI 0) dX10_rank_8 (by first | rfl | decide) ?_
  refine G_goto (pc := 9) (tgt := 13) dX10_rank_9 (by decide) ?_
  refine M_put (pc := 13) hS fl_X10_72 fw_9_25 rfl dX10_rank_13 ?_
  refine G_iconst (pc := 16) (v := nI 0) dX10_rank_16 (by first | rfl | decide) ?_
  refine G_istore_n (pc := 17) dX10_rank_17 (by decide) ?_
  refine G_iconst (pc := 18) (v := nI 0) dX10_rank_18 (by first | rfl | decide) ?_
  refine G_istore_n (pc := 19) dX10_rank_19 (by decide) ?_
  exact loop 8 0 rfl
