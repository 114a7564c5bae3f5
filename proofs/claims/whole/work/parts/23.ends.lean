-- ===== the model: isOver, scores, fouls =====
def hF (F : FT) (f i : Nat) : FT := fun s j => if s = 104 ∧ j < i ∧ F 104 j = nI (f + 1) then nI 0 else F s j
theorem hF_0 (F : FT) (f : Nat) : hF F f 0 = F := by
  funext s j
  exact if_neg (fun h => by omega)
theorem hF_o {F : FT} {f i s j : Nat} (h : s ≠ 104 ∨ i ≤ j) : hF F f i s j = F s j := if_neg (fun g => by omega)
theorem hF_t {F : FT} {f i : Nat} (h : F 104 i = nI (f + 1)) : u2 (hF F f i) 104 i (nI 0) = hF F f (i + 1) := by
  funext s j
  simp only [u2, hF]
  by_cases e : s = 104 ∧ j = i
  · obtain ⟨rfl, rfl⟩ := e
    rw [if_pos ⟨rfl, rfl⟩, if_pos ⟨rfl, Nat.lt_succ_self _, h⟩]
  · rw [if_neg e]
    by_cases g : s = 104 ∧ j < i ∧ F 104 j = nI (f + 1)
    · rw [if_pos g, if_pos ⟨g.1, Nat.lt_succ_of_lt g.2.1, g.2.2⟩]
    · rw [if_neg g, if_neg (fun q => g ⟨q.1, by have := q.2.1; by_cases e2 : j = i; exact absurd ⟨q.1, e2⟩ e; omega, q.2.2⟩)]
theorem hF_f {F : FT} {f i : Nat} (h : ¬ F 104 i = nI (f + 1)) : u2 (hF F f i) 104 i (F 104 i) = hF F f (i + 1) := by
  funext s j
  simp only [u2, hF]
  by_cases e : s = 104 ∧ j = i
  · obtain ⟨rfl, rfl⟩ := e
    rw [if_pos ⟨rfl, rfl⟩, if_neg (fun g => h g.2.2)]
  · rw [if_neg e]
    by_cases g : s = 104 ∧ j < i ∧ F 104 j = nI (f + 1)
    · rw [if_pos g, if_pos ⟨g.1, Nat.lt_succ_of_lt g.2.1, g.2.2⟩]
    · rw [if_neg g, if_neg (fun q => g ⟨q.1, by have := q.2.1; by_cases e2 : j = i; exact absurd ⟨q.1, e2⟩ e; omega, q.2.2⟩)]
def overI (F : FT) (f u : Nat) : Nat := if F 115 (2 * f) ≤ F 115 (2 * f + 1) then (if F 115 (2 * f + 1) ≤ F 115 (2 * f) then u else 1) else 0
def mOver (F : FT) (f u : Nat) : FT := hF (u2 (u2 F 117 f (F 111 (2 * f + overI F f u))) 113 f (nI 2)) f 4
theorem C_isOver {Γ : GTy} {Y : HS} (hS : MS Y) (F : FT) {f u : Nat} (hf : f < 20) (hu : F 114 f = nI u) (u1 : u ≤ 1) : Tn Γ M_X10_isOver [.ref 900000, .int (nI f)] (wM Y F) (rt none (wM Y (mOver F f u))) := by
  refine Tn_of' rfl rfl rfl ?_
  show G Γ M_X10_isOver (rm M_X10_isOver) (Vn Γ M_X10_isOver (rt none (wM Y (mOver F f u)))) (0, 0) 0 [some (.ref 900000), some (.int (nI f)), none, none, none, none] [] (wM Y F)
  have loop : ∀ (n9 j : Nat) (v4 : Option Value) (D9 : FT), j + n9 = 4 → hF D9 f 4 = mOver F f u → G Γ M_X10_isOver (rm M_X10_isOver) (Vn Γ M_X10_isOver (rt none (wM Y (mOver F f u)))) (0, 0) 73 [some (.ref 900000), some (.int (nI f)), some (.int (F 115 (2 * f))), some (.int (F 115 (2 * f + 1))), v4, some (.int (nI j))] [] (wM Y (hF D9 f j)) := by
    intro n9
    induction n9 with
    | zero =>
      intro j v4 D9 hj hr
      obtain rfl : j = 4 := by omega
      refine G_iload (pc := 73) dX10_isOver_73 rfl ?_
      refine G_iconst (pc := 75) (v := nI 4) dX10_isOver_75 (by first | rfl | decide) ?_
      refine G_icmp_geN (pc := 76) (tgt := 116) (by omega) (by omega) dX10_isOver_76 (by decide) (fun c76 => ?_) (fun c76 => ?_)
      · skip
        refine G_vret (pc := 116) VZ.n dX10_isOver_116 rfl ⟨by decide, by decide⟩ ?_
        exact ⟨rfl, congrArg (wM Y) hr⟩
      · omega
    | succ n9 ih =>
      intro j v4 D9 hj hr
      have hj9 : j < 4 := by omega
      refine G_iload (pc := 73) dX10_isOver_73 rfl ?_
      refine G_iconst (pc := 75) (v := nI 4) dX10_isOver_75 (by first | rfl | decide) ?_
      refine G_icmp_geN (pc := 76) (tgt := 116) (by omega) (by omega) dX10_isOver_76 (by decide) (fun c76 => ?_) (fun c76 => ?_)
      · omega
      · skip
        refine G_aload_n (pc := 79) dX10_isOver_79 rfl ?_
        refine M_arr (pc := 80) (a := 1900104) hS fl_X10_21 rfl rfl dX10_isOver_80 ?_
        refine G_iload (pc := 83) dX10_isOver_83 rfl ?_
        refine G_aload_n (pc := 85) dX10_isOver_85 rfl ?_
        refine M_arr (pc := 86) (a := 1900104) hS fl_X10_21 rfl rfl dX10_isOver_86 ?_
        refine G_iload (pc := 89) dX10_isOver_89 rfl ?_
        refine M_ldv (pc := 91) (kk := 4) (j := j) (v := D9 104 j) (hF_o (Or.inr (Nat.le_refl j))) hS rfl rfl rfl hj9 dX10_isOver_91 ?_
        refine G_iload_n (pc := 92) dX10_isOver_92 rfl ?_
        refine G_iconst (pc := 93) (v := nI 1) dX10_isOver_93 (by first | rfl | decide) ?_
        refine G_iaddN (pc := 94) dX10_isOver_94 ?_
        refine G_icmp_ne (pc := 95) (tgt := 102) dX10_isOver_95 (by decide) (fun c95 => ?_) (fun c95 => ?_)
        · skip
          refine G_aload_n (pc := 102) dX10_isOver_102 rfl ?_
          refine M_arr (pc := 103) (a := 1900104) hS fl_X10_21 rfl rfl dX10_isOver_103 ?_
          refine G_iload (pc := 106) dX10_isOver_106 rfl ?_
          refine M_ldv (pc := 108) (kk := 4) (j := j) (v := D9 104 j) (hF_o (Or.inr (Nat.le_refl j))) hS rfl rfl rfl hj9 dX10_isOver_108 ?_
          refine M_st (pc := 109) (kk := 4) (j := j) hS rfl rfl rfl hj9 dX10_isOver_109 ?_
          refine G_iincN (pc := 110) dX10_isOver_110 rfl (by decide) ?_
          refine G_goto (pc := 113) (tgt := 73) dX10_isOver_113 (by decide) ?_
          have h9 := ih (j + 1) v4 D9 (by omega) hr
          first
            | (rw [← hF_t c95] at h9; exact h9)
            | (rw [← hF_f c95] at h9; exact h9)
        · skip
          refine G_iconst (pc := 98) (v := nI 0) dX10_isOver_98 (by first | rfl | decide) ?_
          refine G_goto (pc := 99) (tgt := 109) dX10_isOver_99 (by decide) ?_
          refine M_st (pc := 109) (kk := 4) (j := j) hS rfl rfl rfl hj9 dX10_isOver_109 ?_
          refine G_iincN (pc := 110) dX10_isOver_110 rfl (by decide) ?_
          refine G_goto (pc := 113) (tgt := 73) dX10_isOver_113 (by decide) ?_
          have h9 := ih (j + 1) v4 D9 (by omega) hr
          first
            | (rw [← hF_t c95] at h9; exact h9)
            | (rw [← hF_f c95] at h9; exact h9)
  refine G_aload_n (pc := 0) dX10_isOver_0 rfl ?_
  refine M_arr (pc := 1) (a := 1900115) hS fl_X10_51 rfl rfl dX10_isOver_1 ?_
  refine G_iconst (pc := 4) (v := nI 2) dX10_isOver_4 (by first | rfl | decide) ?_
  refine G_iload_n (pc := 5) dX10_isOver_5 rfl ?_
  refine G_imulN (pc := 6) dX10_isOver_6 ?_
  refine M_ldv (pc := 7) (kk := 15) (j := 2 * f) (v := F 115 (2 * f)) rfl hS rfl rfl rfl (show 2 * f < 40 by omega) dX10_isOver_7 ?_
  refine G_istore_n (pc := 8) dX10_isOver_8 (by decide) ?_
  refine G_aload_n (pc := 9) dX10_isOver_9 rfl ?_
  refine M_arr (pc := 10) (a := 1900115) hS fl_X10_51 rfl rfl dX10_isOver_10 ?_
  refine G_iconst (pc := 13) (v := nI 2) dX10_isOver_13 (by first | rfl | decide) ?_
  refine G_iload_n (pc := 14) dX10_isOver_14 rfl ?_
  refine G_imulN (pc := 15) dX10_isOver_15 ?_
  refine G_iconst (pc := 16) (v := nI 1) dX10_isOver_16 (by first | rfl | decide) ?_
  refine G_iaddN (pc := 17) dX10_isOver_17 ?_
  refine M_ldv (pc := 18) (kk := 15) (j := 2 * f + 1) (v := F 115 (2 * f + 1)) rfl hS rfl rfl rfl (show 2 * f + 1 < 40 by omega) dX10_isOver_18 ?_
  refine G_istore_n (pc := 19) dX10_isOver_19 (by decide) ?_
  refine G_iload_n (pc := 20) dX10_isOver_20 rfl ?_
  refine G_iload_n (pc := 21) dX10_isOver_21 rfl ?_
  refine G_icmp_le (pc := 22) (tgt := 29) dX10_isOver_22 (by decide) (fun c22 => ?_) (fun c22 => ?_)
  · skip
    refine G_iload_n (pc := 29) dX10_isOver_29 rfl ?_
    refine G_iload_n (pc := 30) dX10_isOver_30 rfl ?_
    refine G_icmp_le (pc := 31) (tgt := 38) dX10_isOver_31 (by decide) (fun c31 => ?_) (fun c31 => ?_)
    · skip
      refine G_aload_n (pc := 38) dX10_isOver_38 rfl ?_
      refine M_arr (pc := 39) (a := 1900114) hS fl_X10_48 rfl rfl dX10_isOver_39 ?_
      refine G_iload_n (pc := 42) dX10_isOver_42 rfl ?_
      refine M_ldv (pc := 43) (kk := 14) (j := f) (v := nI u) hu hS rfl rfl rfl (show f < 20 by omega) dX10_isOver_43 ?_
      refine G_istore (pc := 44) dX10_isOver_44 (by decide) ?_
      refine G_aload_n (pc := 46) dX10_isOver_46 rfl ?_
      refine M_arr (pc := 47) (a := 1900117) hS fl_X10_57 rfl rfl dX10_isOver_47 ?_
      refine G_iload_n (pc := 50) dX10_isOver_50 rfl ?_
      refine G_aload_n (pc := 51) dX10_isOver_51 rfl ?_
      refine M_arr (pc := 52) (a := 1900111) hS fl_X10_39 rfl rfl dX10_isOver_52 ?_
      refine G_iconst (pc := 55) (v := nI 2) dX10_isOver_55 (by first | rfl | decide) ?_
      refine G_iload_n (pc := 56) dX10_isOver_56 rfl ?_
      refine G_imulN (pc := 57) dX10_isOver_57 ?_
      refine G_iload (pc := 58) dX10_isOver_58 rfl ?_
      refine G_iaddN (pc := 60) dX10_isOver_60 ?_
      refine M_ld (pc := 61) (kk := 11) (j := _) hS rfl rfl rfl (by first | (show 2 * f + 1 < 40; omega) | (show 2 * f + 0 < 40; omega) | (show 2 * f + u < 40; omega)) dX10_isOver_61 ?_
      refine M_st (pc := 62) (kk := 17) (j := f) hS rfl rfl rfl (show f < 20 by omega) dX10_isOver_62 ?_
      refine G_aload_n (pc := 63) dX10_isOver_63 rfl ?_
      refine M_arr (pc := 64) (a := 1900113) hS fl_X10_45 rfl rfl dX10_isOver_64 ?_
      refine G_iload_n (pc := 67) dX10_isOver_67 rfl ?_
      refine G_iconst (pc := 68) (v := nI 2) dX10_isOver_68 (by first | rfl | decide) ?_
      refine M_st (pc := 69) (kk := 13) (j := f) hS rfl rfl rfl (show f < 20 by omega) dX10_isOver_69 ?_
      refine G_iconst (pc := 70) (v := nI 0) dX10_isOver_70 (by first | rfl | decide) ?_
      refine G_istore (pc := 71) dX10_isOver_71 (by decide) ?_
      have e : overI F f u = _ := (by first | exact (if_pos c22).trans (if_pos c31) | exact (if_pos c22).trans (if_neg c31) | exact if_neg c22)
      have h9 := fun v4 => loop 4 0 v4 (u2 (u2 F 117 f (F 111 (2 * f + overI F f u))) 113 f (nI 2)) rfl rfl
      simp only [hF_0, e] at h9
      exact h9 _
    · skip
      refine G_iconst (pc := 34) (v := nI 1) dX10_isOver_34 (by first | rfl | decide) ?_
      refine G_goto (pc := 35) (tgt := 44) dX10_isOver_35 (by decide) ?_
      refine G_istore (pc := 44) dX10_isOver_44 (by decide) ?_
      refine G_aload_n (pc := 46) dX10_isOver_46 rfl ?_
      refine M_arr (pc := 47) (a := 1900117) hS fl_X10_57 rfl rfl dX10_isOver_47 ?_
      refine G_iload_n (pc := 50) dX10_isOver_50 rfl ?_
      refine G_aload_n (pc := 51) dX10_isOver_51 rfl ?_
      refine M_arr (pc := 52) (a := 1900111) hS fl_X10_39 rfl rfl dX10_isOver_52 ?_
      refine G_iconst (pc := 55) (v := nI 2) dX10_isOver_55 (by first | rfl | decide) ?_
      refine G_iload_n (pc := 56) dX10_isOver_56 rfl ?_
      refine G_imulN (pc := 57) dX10_isOver_57 ?_
      refine G_iload (pc := 58) dX10_isOver_58 rfl ?_
      refine G_iaddN (pc := 60) dX10_isOver_60 ?_
      refine M_ld (pc := 61) (kk := 11) (j := _) hS rfl rfl rfl (by first | (show 2 * f + 1 < 40; omega) | (show 2 * f + 0 < 40; omega) | (show 2 * f + u < 40; omega)) dX10_isOver_61 ?_
      refine M_st (pc := 62) (kk := 17) (j := f) hS rfl rfl rfl (show f < 20 by omega) dX10_isOver_62 ?_
      refine G_aload_n (pc := 63) dX10_isOver_63 rfl ?_
      refine M_arr (pc := 64) (a := 1900113) hS fl_X10_45 rfl rfl dX10_isOver_64 ?_
      refine G_iload_n (pc := 67) dX10_isOver_67 rfl ?_
      refine G_iconst (pc := 68) (v := nI 2) dX10_isOver_68 (by first | rfl | decide) ?_
      refine M_st (pc := 69) (kk := 13) (j := f) hS rfl rfl rfl (show f < 20 by omega) dX10_isOver_69 ?_
      refine G_iconst (pc := 70) (v := nI 0) dX10_isOver_70 (by first | rfl | decide) ?_
      refine G_istore (pc := 71) dX10_isOver_71 (by decide) ?_
      have e : overI F f u = _ := (by first | exact (if_pos c22).trans (if_pos c31) | exact (if_pos c22).trans (if_neg c31) | exact if_neg c22)
      have h9 := fun v4 => loop 4 0 v4 (u2 (u2 F 117 f (F 111 (2 * f + overI F f u))) 113 f (nI 2)) rfl rfl
      simp only [hF_0, e] at h9
      exact h9 _
  · skip
    refine G_iconst (pc := 25) (v := nI 0) dX10_isOver_25 (by first | rfl | decide) ?_
    refine G_goto (pc := 26) (tgt := 44) dX10_isOver_26 (by decide) ?_
    refine G_istore (pc := 44) dX10_isOver_44 (by decide) ?_
    refine G_aload_n (pc := 46) dX10_isOver_46 rfl ?_
    refine M_arr (pc := 47) (a := 1900117) hS fl_X10_57 rfl rfl dX10_isOver_47 ?_
    refine G_iload_n (pc := 50) dX10_isOver_50 rfl ?_
    refine G_aload_n (pc := 51) dX10_isOver_51 rfl ?_
    refine M_arr (pc := 52) (a := 1900111) hS fl_X10_39 rfl rfl dX10_isOver_52 ?_
    refine G_iconst (pc := 55) (v := nI 2) dX10_isOver_55 (by first | rfl | decide) ?_
    refine G_iload_n (pc := 56) dX10_isOver_56 rfl ?_
    refine G_imulN (pc := 57) dX10_isOver_57 ?_
    refine G_iload (pc := 58) dX10_isOver_58 rfl ?_
    refine G_iaddN (pc := 60) dX10_isOver_60 ?_
    refine M_ld (pc := 61) (kk := 11) (j := _) hS rfl rfl rfl (by first | (show 2 * f + 1 < 40; omega) | (show 2 * f + 0 < 40; omega) | (show 2 * f + u < 40; omega)) dX10_isOver_61 ?_
    refine M_st (pc := 62) (kk := 17) (j := f) hS rfl rfl rfl (show f < 20 by omega) dX10_isOver_62 ?_
    refine G_aload_n (pc := 63) dX10_isOver_63 rfl ?_
    refine M_arr (pc := 64) (a := 1900113) hS fl_X10_45 rfl rfl dX10_isOver_64 ?_
    refine G_iload_n (pc := 67) dX10_isOver_67 rfl ?_
    refine G_iconst (pc := 68) (v := nI 2) dX10_isOver_68 (by first | rfl | decide) ?_
    refine M_st (pc := 69) (kk := 13) (j := f) hS rfl rfl rfl (show f < 20 by omega) dX10_isOver_69 ?_
    refine G_iconst (pc := 70) (v := nI 0) dX10_isOver_70 (by first | rfl | decide) ?_
    refine G_istore (pc := 71) dX10_isOver_71 (by decide) ?_
    have e : overI F f u = _ := (by first | exact (if_pos c22).trans (if_pos c31) | exact (if_pos c22).trans (if_neg c31) | exact if_neg c22)
    have h9 := fun v4 => loop 4 0 v4 (u2 (u2 F 117 f (F 111 (2 * f + overI F f u))) 113 f (nI 2)) rfl rfl
    simp only [hF_0, e] at h9
    exact h9 _
abbrev dB (F : FT) (k : Nat) : Prop := (F 24 0 >>> (nI k &&& 31)) &&& nI 1 = nI 1
def sumD (F : FT) : Nat → Nat
  | 0 => 0
  | k + 1 => sumD F k + (if dB F k then k else 0)
theorem sumD_1 (F : FT) : sumD F 1 = 0 := by
  show 0 + (if dB F 0 then 0 else 0) = 0
  split <;> rfl
theorem sumD_le (F : FT) : ∀ n, n ≤ 8 → sumD F n ≤ 8 * n
  | 0, _ => Nat.le_refl _
  | n + 1, h => by
    have := sumD_le F n (by omega)
    show sumD F n + (if dB F n then n else 0) ≤ 8 * (n + 1)
    split <;> omega
theorem sumD_t {F : FT} {k : Nat} (h : dB F k) : sumD F (k + 1) = sumD F k + k := congrArg (fun x => sumD F k + x) (if_pos h)
theorem sumD_f {F : FT} {k : Nat} (h : ¬ dB F k) : sumD F (k + 1) = sumD F k + 0 := congrArg (fun x => sumD F k + x) (if_neg h)
abbrev lowF (F : FT) (f : Nat) : Int32 := lowA (fun k => ¬ F 118 (8 * f + k) < 0) 7
def mSc1 (F : FT) (f u : Nat) : FT := u2 (u2 F 115 (2 * f + u) (F 115 (2 * f + u) + nI (sumD F 8))) 116 f (nI 0)
def mScores (F : FT) (f u : Nat) : Int32 × FT := (nI (sumD F 8), if 0 ≤ lowF F f then (if sumD F 8 = 0 then u2 (mSc1 F f u) 114 f (nI (1 - u)) else mSc1 F f u) else mOver (mSc1 F f u) f u)
theorem C_scores {Γ : GTy} {Y : HS} (hS : MS Y) (F : FT) {f u : Nat} (hf : f < 20) (hu : F 114 f = nI u) (u1 : u ≤ 1) : Tn Γ M_X10_scores [.ref 900000, .int (nI f)] (wM Y F) (rt (some (.int (mScores F f u).1)) (wM Y (mScores F f u).2)) := by
  refine Tn_of' rfl rfl rfl ?_
  show G Γ M_X10_scores (rm M_X10_scores) (Vn Γ M_X10_scores (rt (some (.int (mScores F f u).1)) (wM Y (mScores F f u).2))) (0, 0) 0 [some (.ref 900000), some (.int (nI f)), none, none] [] (wM Y F)
  have loop : ∀ (n9 j : Nat), j + n9 = 8 → G Γ M_X10_scores (rm M_X10_scores) (Vn Γ M_X10_scores (rt (some (.int (mScores F f u).1)) (wM Y (mScores F f u).2))) (0, 0) 4 [some (.ref 900000), some (.int (nI f)), some (.int (nI (sumD F j))), some (.int (nI j))] [] (wM Y F) := by
    intro n9
    induction n9 with
    | zero =>
      intro j hj
      obtain rfl : j = 8 := by omega
      refine G_iload_n (pc := 4) dX10_scores_4 rfl ?_
      refine G_bipush (pc := 5) (v := nI 8) dX10_scores_5 (by first | rfl | decide) ?_
      refine G_icmp_geN (pc := 7) (tgt := 36) (by omega) (by omega) dX10_scores_7 (by decide) (fun c7 => ?_) (fun c7 => ?_)
      · skip
        have g9 := sumD_le F 8 (Nat.le_refl 8)
        refine G_aload_n (pc := 36) dX10_scores_36 rfl ?_
        refine M_arr (pc := 37) (a := 1900115) hS fl_X10_51 rfl rfl dX10_scores_37 ?_
        refine G_iconst (pc := 40) (v := nI 2) dX10_scores_40 (by first | rfl | decide) ?_
        refine G_iload_n (pc := 41) dX10_scores_41 rfl ?_
        refine G_imulN (pc := 42) dX10_scores_42 ?_
        refine G_aload_n (pc := 43) dX10_scores_43 rfl ?_
        refine M_arr (pc := 44) (a := 1900114) hS fl_X10_48 rfl rfl dX10_scores_44 ?_
        refine G_iload_n (pc := 47) dX10_scores_47 rfl ?_
        refine M_ldv (pc := 48) (kk := 14) (j := f) (v := nI u) hu hS rfl rfl rfl (show f < 20 by omega) dX10_scores_48 ?_
        refine G_iaddN (pc := 49) dX10_scores_49 ?_
        refine G_dup2 (pc := 50) dX10_scores_50 rfl rfl ?_
        refine M_ldv (pc := 51) (kk := 15) (j := 2 * f + u) (v := F 115 (2 * f + u)) rfl hS rfl rfl rfl (show 2 * f + u < 40 by omega) dX10_scores_51 ?_
        refine G_iload_n (pc := 52) dX10_scores_52 rfl ?_
        refine G_iadd (pc := 53) dX10_scores_53 ?_
        refine M_st (pc := 54) (kk := 15) (j := 2 * f + u) hS rfl rfl rfl (show 2 * f + u < 40 by omega) dX10_scores_54 ?_
        refine G_aload_n (pc := 55) dX10_scores_55 rfl ?_
        refine M_arr (pc := 56) (a := 1900116) hS fl_X10_54 rfl rfl dX10_scores_56 ?_
        refine G_iload_n (pc := 59) dX10_scores_59 rfl ?_
        refine G_iconst (pc := 60) (v := nI 0) dX10_scores_60 (by first | rfl | decide) ?_
        refine M_bst (pc := 61) (kk := 16) (j := f) hS rfl rfl rfl (show f < 20 by omega) (Or.inl rfl) dX10_scores_61 ?_
        refine G_aload_n (pc := 62) dX10_scores_62 rfl ?_
        refine G_iload_n (pc := 63) dX10_scores_63 rfl ?_
        refine K_Vn1r (pc := 64) (k' := (0, 0)) mok_X10_lowest lk_X10_151 hS.1 rfl rfl rfl (aok0 rfl) dX10_scores_64 (C_lowest hS _ hf) rfl ?_
        show G _ _ _ _ _ _ _ (.int (lowF F f) :: _) _
        refine G_if_ge (pc := 67) (tgt := 78) dX10_scores_67 (by decide) (fun c67 => ?_) (fun c67 => ?_)
        · skip
          refine G_iload_n (pc := 78) dX10_scores_78 rfl ?_
          refine G_if_neN (pc := 79) (tgt := 96) (by omega) dX10_scores_79 (by decide) (fun c79 => ?_) (fun c79 => ?_)
          · skip
            refine G_iload_n (pc := 96) dX10_scores_96 rfl ?_
            refine G_iret (pc := 97) VZ.n dX10_scores_97 rfl ⟨by decide, by decide⟩ ?_
            refine ⟨rfl, congrArg (wM Y) ?_⟩
            show _ = (if 0 ≤ lowF F f then (if sumD F 8 = 0 then u2 (mSc1 F f u) 114 f (nI (1 - u)) else mSc1 F f u) else mOver (mSc1 F f u) f u)
            first
              | (rw [if_neg c67]; rfl)
              | (rw [if_neg c67])
              | (rw [if_pos c67, if_pos c79]; rfl)
              | (rw [if_pos c67, if_pos c79])
              | (rw [if_pos c67, if_neg c79]; rfl)
              | (rw [if_pos c67, if_neg c79])
          · skip
            refine G_aload_n (pc := 82) dX10_scores_82 rfl ?_
            refine M_arr (pc := 83) (a := 1900114) hS fl_X10_48 rfl rfl dX10_scores_83 ?_
            refine G_iload_n (pc := 86) dX10_scores_86 rfl ?_
            refine G_iconst (pc := 87) (v := nI 1) dX10_scores_87 (by first | rfl | decide) ?_
            refine G_aload_n (pc := 88) dX10_scores_88 rfl ?_
            refine M_arr (pc := 89) (a := 1900114) hS fl_X10_48 rfl rfl dX10_scores_89 ?_
            refine G_iload_n (pc := 92) dX10_scores_92 rfl ?_
            refine M_ldv (pc := 93) (kk := 14) (j := f) (v := nI u) hu hS rfl rfl rfl (show f < 20 by omega) dX10_scores_93 ?_
            refine G_isubN (pc := 94) (by omega) dX10_scores_94 ?_
            refine M_st (pc := 95) (kk := 14) (j := f) hS rfl rfl rfl (show f < 20 by omega) dX10_scores_95 ?_
            refine G_iload_n (pc := 96) dX10_scores_96 rfl ?_
            refine G_iret (pc := 97) VZ.n dX10_scores_97 rfl ⟨by decide, by decide⟩ ?_
            refine ⟨rfl, congrArg (wM Y) ?_⟩
            show _ = (if 0 ≤ lowF F f then (if sumD F 8 = 0 then u2 (mSc1 F f u) 114 f (nI (1 - u)) else mSc1 F f u) else mOver (mSc1 F f u) f u)
            first
              | (rw [if_neg c67]; rfl)
              | (rw [if_neg c67])
              | (rw [if_pos c67, if_pos c79]; rfl)
              | (rw [if_pos c67, if_pos c79])
              | (rw [if_pos c67, if_neg c79]; rfl)
              | (rw [if_pos c67, if_neg c79])
        · skip
          refine G_aload_n (pc := 70) dX10_scores_70 rfl ?_
          refine G_iload_n (pc := 71) dX10_scores_71 rfl ?_
          refine K_Vn1v (pc := 72) (k' := (0, 0)) mok_X10_isOver lk_X10_157 hS.1 rfl rfl rfl (aok0 rfl) dX10_scores_72 (C_isOver hS _ hf (u := u) hu u1) rfl ?_
          refine G_goto (pc := 75) (tgt := 96) dX10_scores_75 (by decide) ?_
          refine G_iload_n (pc := 96) dX10_scores_96 rfl ?_
          refine G_iret (pc := 97) VZ.n dX10_scores_97 rfl ⟨by decide, by decide⟩ ?_
          refine ⟨rfl, congrArg (wM Y) ?_⟩
          show _ = (if 0 ≤ lowF F f then (if sumD F 8 = 0 then u2 (mSc1 F f u) 114 f (nI (1 - u)) else mSc1 F f u) else mOver (mSc1 F f u) f u)
          first
            | (rw [if_neg c67]; rfl)
            | (rw [if_neg c67])
            | (rw [if_pos c67, if_pos c79]; rfl)
            | (rw [if_pos c67, if_pos c79])
            | (rw [if_pos c67, if_neg c79]; rfl)
            | (rw [if_pos c67, if_neg c79])
      · omega
    | succ n9 ih =>
      intro j hj
      have hj9 : j < 8 := by omega
      refine G_iload_n (pc := 4) dX10_scores_4 rfl ?_
      refine G_bipush (pc := 5) (v := nI 8) dX10_scores_5 (by first | rfl | decide) ?_
      refine G_icmp_geN (pc := 7) (tgt := 36) (by omega) (by omega) dX10_scores_7 (by decide) (fun c7 => ?_) (fun c7 => ?_)
      · omega
      · skip
        refine G_iload_n (pc := 10) dX10_scores_10 rfl ?_
        refine G_aload_n (pc := 11) dX10_scores_11 rfl ?_
        refine M_getv (pc := 12) (kk := 24) (v := F 24 0) rfl hS fl_X10_131 rfl dX10_scores_12 ?_
        refine G_iload_n (pc := 15) dX10_scores_15 rfl ?_
        refine G_ishr (pc := 16) dX10_scores_16 ?_
        refine G_iconst (pc := 17) (v := nI 1) dX10_scores_17 (by first | rfl | decide) ?_
        refine G_iand (pc := 18) dX10_scores_18 ?_
        refine G_iconst (pc := 19) (v := nI 1) dX10_scores_19 (by first | rfl | decide) ?_
        refine G_icmp_ne (pc := 20) (tgt := 27) dX10_scores_20 (by decide) (fun c20 => ?_) (fun c20 => ?_)
        · skip
          refine G_iconst (pc := 27) (v := nI 0) dX10_scores_27 (by first | rfl | decide) ?_
          refine G_iaddN (pc := 28) dX10_scores_28 ?_
          refine G_istore_n (pc := 29) dX10_scores_29 (by decide) ?_
          refine G_iincN (pc := 30) dX10_scores_30 rfl (by decide) ?_
          refine G_goto (pc := 33) (tgt := 4) dX10_scores_33 (by decide) ?_
          have h9 := ih (j + 1) (by omega)
          first
            | (rw [sumD_f c20] at h9; exact h9)
            | (rw [sumD_t c20] at h9; exact h9)
        · skip
          refine G_iload_n (pc := 23) dX10_scores_23 rfl ?_
          refine G_goto (pc := 24) (tgt := 28) dX10_scores_24 (by decide) ?_
          refine G_iaddN (pc := 28) dX10_scores_28 ?_
          refine G_istore_n (pc := 29) dX10_scores_29 (by decide) ?_
          refine G_iincN (pc := 30) dX10_scores_30 rfl (by decide) ?_
          refine G_goto (pc := 33) (tgt := 4) dX10_scores_33 (by decide) ?_
          have h9 := ih (j + 1) (by omega)
          first
            | (rw [sumD_f c20] at h9; exact h9)
            | (rw [sumD_t c20] at h9; exact h9)
  refine G_iconst (pc := 0) (v := nI 0) dX10_scores_0 (by first | rfl | decide) ?_
  refine G_istore_n (pc := 1) dX10_scores_1 (by decide) ?_
  refine G_iconst (pc := 2) (v := nI 1) dX10_scores_2 (by first | rfl | decide) ?_
  refine G_istore_n (pc := 3) dX10_scores_3 (by decide) ?_
  have h9 := loop 7 1 rfl
  rw [sumD_1] at h9
  exact h9
def fF (F : FT) (f : Nat) : Nat → FT
  | 0 => F
  | k + 1 => if dB F k then cbF (fF F f k) f k else fF F f k
theorem fF_o {F : FT} {f s j : Nat} (h : s ≠ 118 ∧ s ≠ 119) : ∀ {k : Nat}, fF F f k s j = F s j
  | 0 => rfl
  | k + 1 => by
    show (if dB F k then cbF (fF F f k) f k else fF F f k) s j = F s j
    split
    · rw [show cbF (fF F f k) f k s j = fF F f k s j from (if_neg (fun g => h.1 g.1)).trans (if_neg (fun g => h.2 g.1))]
      exact fF_o h
    · exact fF_o h
def fSum (on : Int32) : Int32 := if nI 4 ≤ on then on else nI 4
def fF2 (F : FT) (f u : Nat) (on : Int32) : FT := u2 (u2 (fF F f 8) 114 f (nI (1 - u))) 115 (2 * f + (1 - u)) (F 115 (2 * f + (1 - u)) + fSum on)
def mFouls (F : FT) (f u : Nat) (on : Int32) : Int32 × FT := (-fSum on, u2 (fF2 F f u on) 116 f (b2 (allB (hidP (fF2 F f u on) (lowF (fF2 F f u on) f)) 8 = true)))
theorem C_fouls {Γ : GTy} {Y : HS} (hS : MS Y) (F : FT) {f u c : Nat} {on : Int32} (hf : f < 20) (hu : F 114 f = nI u) (u1 : u ≤ 1) (hw : fF F f 8 119 0 = nI c) (c1 : c < 128) : Tn Γ M_X10_fouls [.ref 900000, .int (nI f), .int on] (wM Y F) (rt (some (.int (mFouls F f u on).1)) (wM Y (mFouls F f u on).2)) := by
  refine Tn_of' rfl rfl rfl ?_
  show G Γ M_X10_fouls (rm M_X10_fouls) (Vn Γ M_X10_fouls (rt (some (.int (mFouls F f u on).1)) (wM Y (mFouls F f u on).2))) (0, 0) 0 [some (.ref 900000), some (.int (nI f)), some (.int on), none] [] (wM Y F)
  have loop : ∀ (n9 j : Nat), j + n9 = 8 → G Γ M_X10_fouls (rm M_X10_fouls) (Vn Γ M_X10_fouls (rt (some (.int (mFouls F f u on).1)) (wM Y (mFouls F f u on).2))) (0, 0) 2 [some (.ref 900000), some (.int (nI f)), some (.int on), some (.int (nI j))] [] (wM Y (fF F f j)) := by
    intro n9
    induction n9 with
    | zero =>
      intro j hj
      obtain rfl : j = 8 := by omega
      refine G_iload_n (pc := 2) dX10_fouls_2 rfl ?_
      refine G_bipush (pc := 3) (v := nI 8) dX10_fouls_3 (by first | rfl | decide) ?_
      refine G_icmp_geN (pc := 5) (tgt := 32) (by omega) (by omega) dX10_fouls_5 (by decide) (fun c5 => ?_) (fun c5 => ?_)
      · skip
        refine G_iload_n (pc := 32) dX10_fouls_32 rfl ?_
        refine G_iconst (pc := 33) (v := nI 4) dX10_fouls_33 (by first | rfl | decide) ?_
        refine G_icmp_ge (pc := 34) (tgt := 41) dX10_fouls_34 (by decide) (fun c34 => ?_) (fun c34 => ?_)
        · skip
          refine G_iload_n (pc := 41) dX10_fouls_41 rfl ?_
          refine G_istore_n (pc := 42) dX10_fouls_42 (by decide) ?_
          have e : fSum on = _ := (by first | exact if_pos c34 | exact if_neg c34)
          refine G_aload_n (pc := 43) dX10_fouls_43 rfl ?_
          refine M_arr (pc := 44) (a := 1900114) hS fl_X10_48 rfl rfl dX10_fouls_44 ?_
          refine G_iload_n (pc := 47) dX10_fouls_47 rfl ?_
          refine G_iconst (pc := 48) (v := nI 1) dX10_fouls_48 (by first | rfl | decide) ?_
          refine G_aload_n (pc := 49) dX10_fouls_49 rfl ?_
          refine M_arr (pc := 50) (a := 1900114) hS fl_X10_48 rfl rfl dX10_fouls_50 ?_
          refine G_iload_n (pc := 53) dX10_fouls_53 rfl ?_
          refine M_ldv (pc := 54) (kk := 14) (j := f) (v := nI u) ((fF_o ⟨by decide, by decide⟩).trans hu) hS rfl rfl rfl (show f < 20 by omega) dX10_fouls_54 ?_
          refine G_isubN (pc := 55) (by omega) dX10_fouls_55 ?_
          refine M_st (pc := 56) (kk := 14) (j := f) hS rfl rfl rfl (show f < 20 by omega) dX10_fouls_56 ?_
          refine G_aload_n (pc := 57) dX10_fouls_57 rfl ?_
          refine M_arr (pc := 58) (a := 1900115) hS fl_X10_51 rfl rfl dX10_fouls_58 ?_
          refine G_iconst (pc := 61) (v := nI 2) dX10_fouls_61 (by first | rfl | decide) ?_
          refine G_iload_n (pc := 62) dX10_fouls_62 rfl ?_
          refine G_imulN (pc := 63) dX10_fouls_63 ?_
          refine G_aload_n (pc := 64) dX10_fouls_64 rfl ?_
          refine M_arr (pc := 65) (a := 1900114) hS fl_X10_48 rfl rfl dX10_fouls_65 ?_
          refine G_iload_n (pc := 68) dX10_fouls_68 rfl ?_
          refine M_ldv (pc := 69) (kk := 14) (j := f) (v := nI (1 - u)) (if_pos ⟨rfl, rfl⟩) hS rfl rfl rfl (show f < 20 by omega) dX10_fouls_69 ?_
          refine G_iaddN (pc := 70) dX10_fouls_70 ?_
          refine G_dup2 (pc := 71) dX10_fouls_71 rfl rfl ?_
          refine M_ldv (pc := 72) (kk := 15) (j := 2 * f + (1 - u)) (v := F 115 (2 * f + (1 - u))) (show fF F f 8 115 (2 * f + (1 - u)) = _ from fF_o ⟨by decide, by decide⟩) hS rfl rfl rfl (show 2 * f + (1 - u) < 40 by omega) dX10_fouls_72 ?_
          refine G_iload_n (pc := 73) dX10_fouls_73 rfl ?_
          refine G_iadd (pc := 74) dX10_fouls_74 ?_
          refine M_st (pc := 75) (kk := 15) (j := 2 * f + (1 - u)) hS rfl rfl rfl (show 2 * f + (1 - u) < 40 by omega) dX10_fouls_75 ?_
          refine G_aload_n (pc := 76) dX10_fouls_76 rfl ?_
          refine M_arr (pc := 77) (a := 1900116) hS fl_X10_54 rfl rfl dX10_fouls_77 ?_
          refine G_iload_n (pc := 80) dX10_fouls_80 rfl ?_
          refine G_aload_n (pc := 81) dX10_fouls_81 rfl ?_
          refine G_aload_n (pc := 82) dX10_fouls_82 rfl ?_
          refine G_iload_n (pc := 83) dX10_fouls_83 rfl ?_
          refine K_Vn1r (pc := 84) (k' := (0, 0)) mok_X10_lowest lk_X10_151 hS.1 rfl rfl rfl (aok0 rfl) dX10_fouls_84 (C_lowest hS _ hf) rfl ?_
          refine K_Vn1r (pc := 87) (k' := (0, 0)) mok_X10_isHidden lk_X10_154 hS.1 rfl rfl rfl (aok0 rfl) dX10_fouls_87 (C_isHidden hS _ (c := c) hw c1) rfl ?_
          refine M_bst (pc := 90) (kk := 16) (j := f) hS rfl rfl rfl (show f < 20 by omega) (b2_or _) dX10_fouls_90 ?_
          refine G_iload_n (pc := 91) dX10_fouls_91 rfl ?_
          refine G_ineg (pc := 92) dX10_fouls_92 ?_
          refine G_iret (pc := 93) VZ.n dX10_fouls_93 rfl ⟨by decide, by decide⟩ ?_
          unfold rt mFouls fF2
          rw [e]
          exact ⟨rfl, rfl⟩
        · skip
          refine G_iconst (pc := 37) (v := nI 4) dX10_fouls_37 (by first | rfl | decide) ?_
          refine G_goto (pc := 38) (tgt := 42) dX10_fouls_38 (by decide) ?_
          refine G_istore_n (pc := 42) dX10_fouls_42 (by decide) ?_
          have e : fSum on = _ := (by first | exact if_pos c34 | exact if_neg c34)
          refine G_aload_n (pc := 43) dX10_fouls_43 rfl ?_
          refine M_arr (pc := 44) (a := 1900114) hS fl_X10_48 rfl rfl dX10_fouls_44 ?_
          refine G_iload_n (pc := 47) dX10_fouls_47 rfl ?_
          refine G_iconst (pc := 48) (v := nI 1) dX10_fouls_48 (by first | rfl | decide) ?_
          refine G_aload_n (pc := 49) dX10_fouls_49 rfl ?_
          refine M_arr (pc := 50) (a := 1900114) hS fl_X10_48 rfl rfl dX10_fouls_50 ?_
          refine G_iload_n (pc := 53) dX10_fouls_53 rfl ?_
          refine M_ldv (pc := 54) (kk := 14) (j := f) (v := nI u) ((fF_o ⟨by decide, by decide⟩).trans hu) hS rfl rfl rfl (show f < 20 by omega) dX10_fouls_54 ?_
          refine G_isubN (pc := 55) (by omega) dX10_fouls_55 ?_
          refine M_st (pc := 56) (kk := 14) (j := f) hS rfl rfl rfl (show f < 20 by omega) dX10_fouls_56 ?_
          refine G_aload_n (pc := 57) dX10_fouls_57 rfl ?_
          refine M_arr (pc := 58) (a := 1900115) hS fl_X10_51 rfl rfl dX10_fouls_58 ?_
          refine G_iconst (pc := 61) (v := nI 2) dX10_fouls_61 (by first | rfl | decide) ?_
          refine G_iload_n (pc := 62) dX10_fouls_62 rfl ?_
          refine G_imulN (pc := 63) dX10_fouls_63 ?_
          refine G_aload_n (pc := 64) dX10_fouls_64 rfl ?_
          refine M_arr (pc := 65) (a := 1900114) hS fl_X10_48 rfl rfl dX10_fouls_65 ?_
          refine G_iload_n (pc := 68) dX10_fouls_68 rfl ?_
          refine M_ldv (pc := 69) (kk := 14) (j := f) (v := nI (1 - u)) (if_pos ⟨rfl, rfl⟩) hS rfl rfl rfl (show f < 20 by omega) dX10_fouls_69 ?_
          refine G_iaddN (pc := 70) dX10_fouls_70 ?_
          refine G_dup2 (pc := 71) dX10_fouls_71 rfl rfl ?_
          refine M_ldv (pc := 72) (kk := 15) (j := 2 * f + (1 - u)) (v := F 115 (2 * f + (1 - u))) (show fF F f 8 115 (2 * f + (1 - u)) = _ from fF_o ⟨by decide, by decide⟩) hS rfl rfl rfl (show 2 * f + (1 - u) < 40 by omega) dX10_fouls_72 ?_
          refine G_iload_n (pc := 73) dX10_fouls_73 rfl ?_
          refine G_iadd (pc := 74) dX10_fouls_74 ?_
          refine M_st (pc := 75) (kk := 15) (j := 2 * f + (1 - u)) hS rfl rfl rfl (show 2 * f + (1 - u) < 40 by omega) dX10_fouls_75 ?_
          refine G_aload_n (pc := 76) dX10_fouls_76 rfl ?_
          refine M_arr (pc := 77) (a := 1900116) hS fl_X10_54 rfl rfl dX10_fouls_77 ?_
          refine G_iload_n (pc := 80) dX10_fouls_80 rfl ?_
          refine G_aload_n (pc := 81) dX10_fouls_81 rfl ?_
          refine G_aload_n (pc := 82) dX10_fouls_82 rfl ?_
          refine G_iload_n (pc := 83) dX10_fouls_83 rfl ?_
          refine K_Vn1r (pc := 84) (k' := (0, 0)) mok_X10_lowest lk_X10_151 hS.1 rfl rfl rfl (aok0 rfl) dX10_fouls_84 (C_lowest hS _ hf) rfl ?_
          refine K_Vn1r (pc := 87) (k' := (0, 0)) mok_X10_isHidden lk_X10_154 hS.1 rfl rfl rfl (aok0 rfl) dX10_fouls_87 (C_isHidden hS _ (c := c) hw c1) rfl ?_
          refine M_bst (pc := 90) (kk := 16) (j := f) hS rfl rfl rfl (show f < 20 by omega) (b2_or _) dX10_fouls_90 ?_
          refine G_iload_n (pc := 91) dX10_fouls_91 rfl ?_
          refine G_ineg (pc := 92) dX10_fouls_92 ?_
          refine G_iret (pc := 93) VZ.n dX10_fouls_93 rfl ⟨by decide, by decide⟩ ?_
          unfold rt mFouls fF2
          rw [e]
          exact ⟨rfl, rfl⟩
      · omega
    | succ n9 ih =>
      intro j hj
      have hj9 : j < 8 := by omega
      refine G_iload_n (pc := 2) dX10_fouls_2 rfl ?_
      refine G_bipush (pc := 3) (v := nI 8) dX10_fouls_3 (by first | rfl | decide) ?_
      refine G_icmp_geN (pc := 5) (tgt := 32) (by omega) (by omega) dX10_fouls_5 (by decide) (fun c5 => ?_) (fun c5 => ?_)
      · omega
      · skip
        refine G_aload_n (pc := 8) dX10_fouls_8 rfl ?_
        refine M_getv (pc := 9) (kk := 24) (v := F 24 0) (fF_o ⟨by decide, by decide⟩) hS fl_X10_131 rfl dX10_fouls_9 ?_
        refine G_iload_n (pc := 12) dX10_fouls_12 rfl ?_
        refine G_ishr (pc := 13) dX10_fouls_13 ?_
        refine G_iconst (pc := 14) (v := nI 1) dX10_fouls_14 (by first | rfl | decide) ?_
        refine G_iand (pc := 15) dX10_fouls_15 ?_
        refine G_iconst (pc := 16) (v := nI 1) dX10_fouls_16 (by first | rfl | decide) ?_
        refine G_icmp_ne (pc := 17) (tgt := 26) dX10_fouls_17 (by decide) (fun c17 => ?_) (fun c17 => ?_)
        · skip
          refine G_iincN (pc := 26) dX10_fouls_26 rfl (by decide) ?_
          refine G_goto (pc := 29) (tgt := 2) dX10_fouls_29 (by decide) ?_
          have h9 := ih (j + 1) (by omega)
          first
            | (rw [show fF F f (j + 1) = fF F f j from if_neg c17] at h9; exact h9)
            | (rw [show fF F f (j + 1) = cbF (fF F f j) f j from if_pos c17] at h9; exact h9)
        · skip
          refine G_aload_n (pc := 20) dX10_fouls_20 rfl ?_
          refine G_iload_n (pc := 21) dX10_fouls_21 rfl ?_
          refine G_iload_n (pc := 22) dX10_fouls_22 rfl ?_
          refine K_Vn2v (pc := 23) (k' := (0, 0)) mok_X10_comesBack lk_X10_147 hS.1 rfl rfl rfl (aok0 rfl) dX10_fouls_23 (C_comesBack hS _ hf hj9) rfl ?_
          refine G_iincN (pc := 26) dX10_fouls_26 rfl (by decide) ?_
          refine G_goto (pc := 29) (tgt := 2) dX10_fouls_29 (by decide) ?_
          have h9 := ih (j + 1) (by omega)
          first
            | (rw [show fF F f (j + 1) = fF F f j from if_neg c17] at h9; exact h9)
            | (rw [show fF F f (j + 1) = cbF (fF F f j) f j from if_pos c17] at h9; exact h9)
  refine G_iconst (pc := 0) (v := nI 0) dX10_fouls_0 (by first | rfl | decide) ?_
  refine G_istore_n (pc := 1) dX10_fouls_1 (by decide) ?_
  exact loop 8 0 rfl
