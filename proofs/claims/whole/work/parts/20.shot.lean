-- ===== the model: a shot =====
def PV (F : FT) : Prop := ∀ k, k < 8 → (F 119 k = -1 ∨ ∃ c, c < 128 ∧ F 119 k = nI c) ∧ ∃ d, d < 8 ∧ F 120 k = nI d
theorem PV.o {F : FT} {s j : Nat} {v : Int32} (h : PV F) (hs : s ≠ 119 ∧ s ≠ 120) : PV (u2 F s j v) := by
  intro k hk
  rw [show u2 F s j v 119 k = F 119 k from if_neg (fun g => hs.1 g.1.symm), show u2 F s j v 120 k = F 120 k from if_neg (fun g => hs.2 g.1.symm)]
  exact h k hk
theorem PV.at {F : FT} {j : Nat} {v : Int32} (h : PV F) (hv : v = -1 ∨ ∃ c, c < 128 ∧ v = nI c) : PV (u2 F 119 j v) := by
  intro k hk
  rw [show u2 F 119 j v 120 k = F 120 k from if_neg (fun g => absurd g.1 (by decide))]
  refine ⟨?_, (h k hk).2⟩
  by_cases e : k = j
  · rw [show u2 F 119 j v 119 k = v from if_pos ⟨rfl, e⟩]; exact hv
  · rw [show u2 F 119 j v 119 k = F 119 k from if_neg (fun g => e g.2)]; exact (h k hk).1
theorem PV.way {F : FT} {j d : Nat} (h : PV F) (hd : d < 8) : PV (u2 F 120 j (nI d)) := by
  intro k hk
  rw [show u2 F 120 j (nI d) 119 k = F 119 k from if_neg (fun g => absurd g.1 (by decide))]
  refine ⟨(h k hk).1, ?_⟩
  by_cases e : k = j
  · rw [show u2 F 120 j (nI d) 120 k = nI d from if_pos ⟨rfl, e⟩]; exact ⟨d, hd, rfl⟩
  · rw [show u2 F 120 j (nI d) 120 k = F 120 k from if_neg (fun g => e g.2)]; exact (h k hk).2
theorem mRolls_PV {F : FT} {b c d : Nat} (h : PV F) (hd : d < 8) : PV (mRolls F b c d) := by
  unfold mRolls
  split
  · next g =>
    split
    · unfold mMove
      split
      · exact (((((h.at (Or.inr ⟨_, nx_lt g.1 g.2, rfl⟩)).o ⟨by decide, by decide⟩).at (Or.inl rfl)).o ⟨by decide, by decide⟩))
      · exact (h.at (Or.inr ⟨_, nx_lt g.1 g.2, rfl⟩)).o ⟨by decide, by decide⟩
    · unfold mMeet
      exact ((((h.o ⟨by decide, by decide⟩).o ⟨by decide, by decide⟩).way hd).o ⟨by decide, by decide⟩).o ⟨by decide, by decide⟩
  · unfold mOut
    exact ((h.way (bw1_lt hd)).way (bnc_lt hd)).o ⟨by decide, by decide⟩
def mStep (F : FT) (k : Nat) : FT := if F 119 k < 0 then F else if F 121 k ≤ 0 then F else mRolls F k (F 119 k).toNatClampNeg (F 120 k).toNatClampNeg
def mTick (F : FT) : Nat → FT
  | 0 => F
  | i + 1 => mStep (mTick F i) i
def mRun (F : FT) : Nat → FT
  | 0 => F
  | n + 1 => if anyB (isR F) 8 = true then mRun (mTick F 8) n else F
theorem mStep_PV {F : FT} {k : Nat} (h : PV F) (hk : k < 8) : PV (mStep F k) := by
  unfold mStep
  split
  · exact h
  · split
    · exact h
    · obtain ⟨d, hd, e⟩ := (h k hk).2
      exact mRolls_PV h (by rw [e, nI_clamp (by omega)]; exact hd)
theorem mTick_PV {F : FT} (h : PV F) : ∀ {i : Nat}, i ≤ 8 → PV (mTick F i)
  | 0, _ => h
  | i + 1, hi => mStep_PV (mTick_PV h (by omega)) (by omega)
theorem mRun_PV : ∀ {n : Nat} {F : FT}, PV F → PV (mRun F n)
  | 0, _, h => h
  | n + 1, F, h => by
    show PV (if anyB (isR F) 8 = true then mRun (mTick F 8) n else F)
    split
    · exact mRun_PV (mTick_PV h (Nat.le_refl 8))
    · exact h
/-- the balls of frame f, lying still -/
def iF (F : FT) (f i : Nat) : FT := fun s j => if j < i then (if s = 119 then F 118 (8 * f + j) else if s = 120 ∨ s = 121 then nI 0 else F s j) else F s j
theorem iF_0 (F : FT) (f : Nat) : iF F f 0 = F := by
  funext s j
  exact if_neg (by omega)
theorem iF_o {F : FT} {f i s j : Nat} (h : s ≠ 119 ∧ s ≠ 120 ∧ s ≠ 121) : iF F f i s j = F s j := by
  unfold iF
  split
  · rw [if_neg h.1, if_neg (by omega)]
  · rfl
theorem iF_s (F : FT) (f i : Nat) : u2 (u2 (u2 (iF F f i) 119 i (F 118 (8 * f + i))) 121 i (nI 0)) 120 i (nI 0) = iF F f (i + 1) := by
  funext s j
  simp only [u2, iF]
  by_cases e : j = i
  · subst e
    rw [if_pos (Nat.lt_succ_self j)]
    by_cases h1 : s = 120
    · subst h1; simp
    · by_cases h2 : s = 121
      · subst h2; simp
      · by_cases h3 : s = 119
        · subst h3; simp
        · simp [h1, h2, h3]
  · by_cases g : j < i
    · rw [if_pos g, if_pos (by omega : j < i + 1)]; simp [e]
    · rw [if_neg g, if_neg (by omega : ¬ j < i + 1)]; simp [e]
/-- the balls of frame f can lie so -/
def BV (F : FT) (f : Nat) : Prop := ∀ k, k < 8 → F 118 (8 * f + k) = -1 ∨ ∃ c, c < 128 ∧ F 118 (8 * f + k) = nI c
def mS0 (F : FT) (f d : Nat) (p : Int32) : FT := u2 (u2 (u2 (u2 (u2 (iF F f 8) 120 0 (nI d)) 121 0 (if 0 ≤ F 118 (8 * f) then p else nI 0)) 22 0 (-1)) 23 0 (nI 0)) 24 0 (nI 0)
theorem mS0_PV {F : FT} {f d : Nat} {p : Int32} (h : BV F f) (hd : d < 8) : PV (mS0 F f d p) := by
  have h0 : PV (iF F f 8) := by
    intro k hk
    rw [show iF F f 8 119 k = F 118 (8 * f + k) by unfold iF; rw [if_pos hk]; rfl, show iF F f 8 120 k = nI 0 by unfold iF; rw [if_pos hk]; rfl]
    exact ⟨h k hk, 0, by decide, rfl⟩
  exact ((((h0.way hd).o ⟨by decide, by decide⟩).o ⟨by decide, by decide⟩).o ⟨by decide, by decide⟩).o ⟨by decide, by decide⟩
def mShot (F : FT) (f d : Nat) (p : Int32) : FT := mRun (mS0 F f d p) 300
theorem C_shot {Γ : GTy} {Y : HS} (hS : MS Y) (F : FT) {f d : Nat} {p : Int32} (hf : f < 20) (hd : d < 8) (hB : BV F f) : Tn Γ M_X10_shot [.ref 900000, .int (nI f), .int (nI d), .int p] (wM Y F) (rt none (wM Y (mShot F f d p))) := by
  refine Tn_of' rfl rfl rfl ?_
  show G Γ M_X10_shot (rm M_X10_shot) (Vn Γ M_X10_shot (rt none (wM Y (mShot F f d p)))) (0, 0) 0 [some (.ref 900000), some (.int (nI f)), some (.int (nI d)), some (.int p), none, none] [] (wM Y F)
  have outer : ∀ (nt i : Nat) (v5 : Option Value) (D9 : FT), i + nt = 300 → PV D9 → mRun D9 nt = mShot F f d p → G Γ M_X10_shot (rm M_X10_shot) (Vn Γ M_X10_shot (rt none (wM Y (mShot F f d p)))) (0, 0) 96 [some (.ref 900000), some (.int (nI f)), some (.int (nI d)), some (.int p), some (.int (nI i)), v5] [] (wM Y D9) := by
    intro nt
    induction nt with
    | zero =>
      intro i v5 D9 hi hG hr
      obtain rfl : i = 300 := by omega
      refine G_iload (pc := 96) dX10_shot_96 rfl ?_
      refine G_sipush (pc := 98) (v := nI 300) dX10_shot_98 (by first | rfl | decide) ?_
      refine G_icmp_geN (pc := 101) (tgt := 159) (by omega) (by omega) dX10_shot_101 (by decide) (fun c101 => ?_) (fun c101 => ?_)
      · skip
        refine G_vret (pc := 159) VZ.n dX10_shot_159 rfl ⟨by decide, by decide⟩ ?_
        first
          | exact ⟨rfl, congrArg (wM Y) hr9⟩
          | exact ⟨rfl, congrArg (wM Y) hr⟩
      · omega
    | succ nt iht =>
      intro i v5 D9 hi hG hr
      have hi9 : i < 300 := by omega
      refine G_iload (pc := 96) dX10_shot_96 rfl ?_
      refine G_sipush (pc := 98) (v := nI 300) dX10_shot_98 (by first | rfl | decide) ?_
      refine G_icmp_geN (pc := 101) (tgt := 159) (by omega) (by omega) dX10_shot_101 (by decide) (fun c101 => ?_) (fun c101 => ?_)
      · omega
      · skip
        refine G_aload_n (pc := 104) dX10_shot_104 rfl ?_
        refine K_Vn0r (pc := 105) (k' := (0, 0)) mok_X10_isRolling lk_X10_134 hS.1 rfl rfl rfl (aok0 rfl) dX10_shot_105 (C_isRolling hS _) rfl ?_
        refine G_if_eqB (pc := 108) (tgt := 159) dX10_shot_108 (by decide) (fun c108 => ?_) (fun c108 => ?_)
        · skip
          have hr9 : D9 = mShot F f d p := by have e : mRun D9 (nt + 1) = D9 := if_neg c108; rw [← hr, e]
          refine G_vret (pc := 159) VZ.n dX10_shot_159 rfl ⟨by decide, by decide⟩ ?_
          first
            | exact ⟨rfl, congrArg (wM Y) hr9⟩
            | exact ⟨rfl, congrArg (wM Y) hr⟩
        · skip
          have hr9 : mRun (mTick D9 8) nt = mShot F f d p := by have e : mRun D9 (nt + 1) = mRun (mTick D9 8) nt := if_pos c108; rw [← hr, e]
          refine G_iconst (pc := 111) (v := nI 0) dX10_shot_111 (by first | rfl | decide) ?_
          refine G_istore (pc := 112) dX10_shot_112 (by decide) ?_
          have inner : ∀ (n9 j : Nat), j + n9 = 8 → G Γ M_X10_shot (rm M_X10_shot) (Vn Γ M_X10_shot (rt none (wM Y (mShot F f d p)))) (0, 0) 114 [some (.ref 900000), some (.int (nI f)), some (.int (nI d)), some (.int p), some (.int (nI i)), some (.int (nI j))] [] (wM Y (mTick D9 j)) := by
              intro n9
              induction n9 with
              | zero =>
                intro j hj
                obtain rfl : j = 8 := by omega
                refine G_iload (pc := 114) dX10_shot_114 rfl ?_
                refine G_bipush (pc := 116) (v := nI 8) dX10_shot_116 (by first | rfl | decide) ?_
                refine G_icmp_geN (pc := 118) (tgt := 153) (by omega) (by omega) dX10_shot_118 (by decide) (fun c118 => ?_) (fun c118 => ?_)
                · skip
                  refine G_iincN (pc := 153) dX10_shot_153 rfl (by decide) ?_
                  refine G_goto (pc := 156) (tgt := 96) dX10_shot_156 (by decide) ?_
                  exact iht (i + 1) _ _ (by omega) (mTick_PV hG (Nat.le_refl 8)) hr9
                · omega
              | succ n9 ih =>
                intro j hj
                have hj9 : j < 8 := by omega
                refine G_iload (pc := 114) dX10_shot_114 rfl ?_
                refine G_bipush (pc := 116) (v := nI 8) dX10_shot_116 (by first | rfl | decide) ?_
                refine G_icmp_geN (pc := 118) (tgt := 153) (by omega) (by omega) dX10_shot_118 (by decide) (fun c118 => ?_) (fun c118 => ?_)
                · omega
                · skip
                  refine G_aload_n (pc := 121) dX10_shot_121 rfl ?_
                  refine M_arr (pc := 122) (a := 1900119) hS fl_X10_63 rfl rfl dX10_shot_122 ?_
                  refine G_iload (pc := 125) dX10_shot_125 rfl ?_
                  refine M_ldv (pc := 127) (kk := 19) (j := j) (v := mTick D9 j 119 j) rfl hS rfl rfl rfl hj9 dX10_shot_127 ?_
                  refine G_if_lt (pc := 128) (tgt := 147) dX10_shot_128 (by decide) (fun c128 => ?_) (fun c128 => ?_)
                  · skip
                    refine G_iincN (pc := 147) dX10_shot_147 rfl (by decide) ?_
                    refine G_goto (pc := 150) (tgt := 114) dX10_shot_150 (by decide) ?_
                    have h9 := ih (j + 1) (by omega)
                    first
                      | (rw [show mTick D9 (j + 1) = mTick D9 j from if_pos c128] at h9; exact h9)
                      | (rw [show mTick D9 (j + 1) = mTick D9 j from (if_neg c128).trans (if_pos c138)] at h9; exact h9)
                      | (rw [show mTick D9 (j + 1) = mRolls (mTick D9 j) j c d9 from (if_neg c128).trans ((if_neg c138).trans (by rw [e1, e2, nI_clamp (by omega), nI_clamp (by omega)]))] at h9; exact h9)
                  · skip
                    refine G_aload_n (pc := 131) dX10_shot_131 rfl ?_
                    refine M_arr (pc := 132) (a := 1900121) hS fl_X10_69 rfl rfl dX10_shot_132 ?_
                    refine G_iload (pc := 135) dX10_shot_135 rfl ?_
                    refine M_ldv (pc := 137) (kk := 21) (j := j) (v := mTick D9 j 121 j) rfl hS rfl rfl rfl hj9 dX10_shot_137 ?_
                    refine G_if_le (pc := 138) (tgt := 147) dX10_shot_138 (by decide) (fun c138 => ?_) (fun c138 => ?_)
                    · skip
                      refine G_iincN (pc := 147) dX10_shot_147 rfl (by decide) ?_
                      refine G_goto (pc := 150) (tgt := 114) dX10_shot_150 (by decide) ?_
                      have h9 := ih (j + 1) (by omega)
                      first
                        | (rw [show mTick D9 (j + 1) = mTick D9 j from if_pos c128] at h9; exact h9)
                        | (rw [show mTick D9 (j + 1) = mTick D9 j from (if_neg c128).trans (if_pos c138)] at h9; exact h9)
                        | (rw [show mTick D9 (j + 1) = mRolls (mTick D9 j) j c d9 from (if_neg c128).trans ((if_neg c138).trans (by rw [e1, e2, nI_clamp (by omega), nI_clamp (by omega)]))] at h9; exact h9)
                    · skip
                      refine G_aload_n (pc := 141) dX10_shot_141 rfl ?_
                      refine G_iload (pc := 142) dX10_shot_142 rfl ?_
                      have hp9 := mTick_PV hG (i := j) (by omega)
                      obtain ⟨c, hc, e1⟩ := ((hp9 j hj9).1).resolve_left (fun e => c128 (by rw [e]; decide))
                      obtain ⟨d9, hd9, e2⟩ := (hp9 j hj9).2
                      refine K_Vn1v (pc := 144) (k' := (0, 0)) mok_X10_rolls lk_X10_138 hS.1 rfl rfl rfl (aok0 rfl) dX10_shot_144 (C_rolls hS _ hj9 e1 hc e2 hd9) rfl ?_
                      refine G_iincN (pc := 147) dX10_shot_147 rfl (by decide) ?_
                      refine G_goto (pc := 150) (tgt := 114) dX10_shot_150 (by decide) ?_
                      have h9 := ih (j + 1) (by omega)
                      first
                        | (rw [show mTick D9 (j + 1) = mTick D9 j from if_pos c128] at h9; exact h9)
                        | (rw [show mTick D9 (j + 1) = mTick D9 j from (if_neg c128).trans (if_pos c138)] at h9; exact h9)
                        | (rw [show mTick D9 (j + 1) = mRolls (mTick D9 j) j c d9 from (if_neg c128).trans ((if_neg c138).trans (by rw [e1, e2, nI_clamp (by omega), nI_clamp (by omega)]))] at h9; exact h9)
          exact inner 8 0 rfl
  have loop : ∀ (n9 j : Nat), j + n9 = 8 → G Γ M_X10_shot (rm M_X10_shot) (Vn Γ M_X10_shot (rt none (wM Y (mShot F f d p)))) (0, 0) 3 [some (.ref 900000), some (.int (nI f)), some (.int (nI d)), some (.int p), some (.int (nI j)), none] [] (wM Y (iF F f j)) := by
    intro n9
    induction n9 with
    | zero =>
      intro j hj
      obtain rfl : j = 8 := by omega
      refine G_iload (pc := 3) dX10_shot_3 rfl ?_
      refine G_bipush (pc := 5) (v := nI 8) dX10_shot_5 (by first | rfl | decide) ?_
      refine G_icmp_geN (pc := 7) (tgt := 51) (by omega) (by omega) dX10_shot_7 (by decide) (fun c7 => ?_) (fun c7 => ?_)
      · skip
        refine G_aload_n (pc := 51) dX10_shot_51 rfl ?_
        refine M_arr (pc := 52) (a := 1900120) hS fl_X10_66 rfl rfl dX10_shot_52 ?_
        refine G_iconst (pc := 55) (v := nI 0) dX10_shot_55 (by first | rfl | decide) ?_
        refine G_iload_n (pc := 56) dX10_shot_56 rfl ?_
        refine M_st (pc := 57) (kk := 20) (j := 0) hS rfl rfl rfl (by decide) dX10_shot_57 ?_
        refine G_aload_n (pc := 58) dX10_shot_58 rfl ?_
        refine M_arr (pc := 59) (a := 1900121) hS fl_X10_69 rfl rfl dX10_shot_59 ?_
        refine G_iconst (pc := 62) (v := nI 0) dX10_shot_62 (by first | rfl | decide) ?_
        refine G_aload_n (pc := 63) dX10_shot_63 rfl ?_
        refine M_arr (pc := 64) (a := 1900119) hS fl_X10_63 rfl rfl dX10_shot_64 ?_
        refine G_iconst (pc := 67) (v := nI 0) dX10_shot_67 (by first | rfl | decide) ?_
        refine M_ldv (pc := 68) (kk := 19) (j := 0) (v := F 118 (8 * f)) rfl hS rfl rfl rfl (by decide) dX10_shot_68 ?_
        refine G_if_ge (pc := 69) (tgt := 76) dX10_shot_69 (by decide) (fun c69 => ?_) (fun c69 => ?_)
        · skip
          refine G_iload_n (pc := 76) dX10_shot_76 rfl ?_
          refine M_st (pc := 77) (kk := 21) (j := 0) hS rfl rfl rfl (by decide) dX10_shot_77 ?_
          refine G_aload_n (pc := 78) dX10_shot_78 rfl ?_
          refine G_iconst (pc := 79) (v := -1) dX10_shot_79 (by first | rfl | decide) ?_
          refine M_put (pc := 80) hS fl_X10_125 fw_9_22 rfl dX10_shot_80 ?_
          refine G_aload_n (pc := 83) dX10_shot_83 rfl ?_
          refine G_iconst (pc := 84) (v := nI 0) dX10_shot_84 (by first | rfl | decide) ?_
          refine M_put (pc := 85) hS fl_X10_122 fw_9_23 rfl dX10_shot_85 ?_
          refine G_aload_n (pc := 88) dX10_shot_88 rfl ?_
          refine G_iconst (pc := 89) (v := nI 0) dX10_shot_89 (by first | rfl | decide) ?_
          refine M_put (pc := 90) hS fl_X10_131 fw_9_24 rfl dX10_shot_90 ?_
          refine G_iconst (pc := 93) (v := nI 0) dX10_shot_93 (by first | rfl | decide) ?_
          refine G_istore (pc := 94) dX10_shot_94 (by decide) ?_
          have e : mS0 F f d p = _ := congrArg (fun v => u2 (u2 (u2 (u2 (u2 (iF F f 8) 120 0 (nI d)) 121 0 v) 22 0 (-1)) 23 0 (nI 0)) 24 0 (nI 0)) (by first | exact if_pos c69 | exact if_neg c69)
          have h9 := outer 300 0 none (mS0 F f d p) rfl (mS0_PV hB hd) rfl
          rw [e] at h9
          exact h9
        · skip
          refine G_iconst (pc := 72) (v := nI 0) dX10_shot_72 (by first | rfl | decide) ?_
          refine G_goto (pc := 73) (tgt := 77) dX10_shot_73 (by decide) ?_
          refine M_st (pc := 77) (kk := 21) (j := 0) hS rfl rfl rfl (by decide) dX10_shot_77 ?_
          refine G_aload_n (pc := 78) dX10_shot_78 rfl ?_
          refine G_iconst (pc := 79) (v := -1) dX10_shot_79 (by first | rfl | decide) ?_
          refine M_put (pc := 80) hS fl_X10_125 fw_9_22 rfl dX10_shot_80 ?_
          refine G_aload_n (pc := 83) dX10_shot_83 rfl ?_
          refine G_iconst (pc := 84) (v := nI 0) dX10_shot_84 (by first | rfl | decide) ?_
          refine M_put (pc := 85) hS fl_X10_122 fw_9_23 rfl dX10_shot_85 ?_
          refine G_aload_n (pc := 88) dX10_shot_88 rfl ?_
          refine G_iconst (pc := 89) (v := nI 0) dX10_shot_89 (by first | rfl | decide) ?_
          refine M_put (pc := 90) hS fl_X10_131 fw_9_24 rfl dX10_shot_90 ?_
          refine G_iconst (pc := 93) (v := nI 0) dX10_shot_93 (by first | rfl | decide) ?_
          refine G_istore (pc := 94) dX10_shot_94 (by decide) ?_
          have e : mS0 F f d p = _ := congrArg (fun v => u2 (u2 (u2 (u2 (u2 (iF F f 8) 120 0 (nI d)) 121 0 v) 22 0 (-1)) 23 0 (nI 0)) 24 0 (nI 0)) (by first | exact if_pos c69 | exact if_neg c69)
          have h9 := outer 300 0 none (mS0 F f d p) rfl (mS0_PV hB hd) rfl
          rw [e] at h9
          exact h9
      · omega
    | succ n9 ih =>
      intro j hj
      have hj9 : j < 8 := by omega
      refine G_iload (pc := 3) dX10_shot_3 rfl ?_
      refine G_bipush (pc := 5) (v := nI 8) dX10_shot_5 (by first | rfl | decide) ?_
      refine G_icmp_geN (pc := 7) (tgt := 51) (by omega) (by omega) dX10_shot_7 (by decide) (fun c7 => ?_) (fun c7 => ?_)
      · omega
      · skip
        refine G_aload_n (pc := 10) dX10_shot_10 rfl ?_
        refine M_arr (pc := 11) (a := 1900119) hS fl_X10_63 rfl rfl dX10_shot_11 ?_
        refine G_iload (pc := 14) dX10_shot_14 rfl ?_
        refine G_aload_n (pc := 16) dX10_shot_16 rfl ?_
        refine M_arr (pc := 17) (a := 1900118) hS fl_X10_60 rfl rfl dX10_shot_17 ?_
        refine G_bipush (pc := 20) (v := nI 8) dX10_shot_20 (by first | rfl | decide) ?_
        refine G_iload_n (pc := 22) dX10_shot_22 rfl ?_
        refine G_imulN (pc := 23) dX10_shot_23 ?_
        refine G_iload (pc := 24) dX10_shot_24 rfl ?_
        refine G_iaddN (pc := 26) dX10_shot_26 ?_
        refine M_ldv (pc := 27) (kk := 18) (j := 8 * f + j) (v := F 118 (8 * f + j)) (iF_o ⟨by decide, by decide, by decide⟩) hS rfl rfl rfl (show 8 * f + j < 160 by omega) dX10_shot_27 ?_
        refine M_st (pc := 28) (kk := 19) (j := j) hS rfl rfl rfl hj9 dX10_shot_28 ?_
        refine G_aload_n (pc := 29) dX10_shot_29 rfl ?_
        refine M_arr (pc := 30) (a := 1900121) hS fl_X10_69 rfl rfl dX10_shot_30 ?_
        refine G_iload (pc := 33) dX10_shot_33 rfl ?_
        refine G_iconst (pc := 35) (v := nI 0) dX10_shot_35 (by first | rfl | decide) ?_
        refine M_st (pc := 36) (kk := 21) (j := j) hS rfl rfl rfl hj9 dX10_shot_36 ?_
        refine G_aload_n (pc := 37) dX10_shot_37 rfl ?_
        refine M_arr (pc := 38) (a := 1900120) hS fl_X10_66 rfl rfl dX10_shot_38 ?_
        refine G_iload (pc := 41) dX10_shot_41 rfl ?_
        refine G_iconst (pc := 43) (v := nI 0) dX10_shot_43 (by first | rfl | decide) ?_
        refine M_st (pc := 44) (kk := 20) (j := j) hS rfl rfl rfl hj9 dX10_shot_44 ?_
        refine G_iincN (pc := 45) dX10_shot_45 rfl (by decide) ?_
        refine G_goto (pc := 48) (tgt := 3) dX10_shot_48 (by decide) ?_
        have h9 := ih (j + 1) (by omega)
        rw [← iF_s] at h9
        exact h9
  refine G_iconst (pc := 0) (v := nI 0) dX10_shot_0 (by first | rfl | decide) ?_
  refine G_istore (pc := 1) dX10_shot_1 (by decide) ?_
  have h9 := loop 8 0 rfl
  rw [iF_0] at h9
  exact h9
