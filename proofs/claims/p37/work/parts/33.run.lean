-- ===== the class: a whole roll =====
def cStp (k : Nat) (A F : FT) (b : Nat) : FT := if F 119 b < 0 then A else if F 121 b ≤ 0 then A else cAct k A F b (F 119 b).toNatClampNeg (F 120 b).toNatClampNeg
def cTck (k : Nat) (A F : FT) : Nat → FT
  | 0 => A
  | i + 1 => cStp k (cTck k A F i) (mTick F i) i
def cRn (k : Nat) : FT → FT → Nat → FT
  | A, _, 0 => A
  | A, F, n + 1 => if anyB (isR F) 8 = true then cRn k (cTck k A F 8) (mTick F 8) n else A
theorem cStp_n {k : Nat} {A F : FT} {b : Nat} (h : ¬ isR F b) : cStp k A F b = A := by
  unfold cStp
  split
  · rfl
  · split
    · rfl
    · next g1 g2 => exact absurd ⟨g1, g2⟩ h
theorem cStp_y {k : Nat} {A F : FT} {b x d : Nat} (h : isR F b) (hx : F 119 b = nI x) (x1 : x < 128) (hd : F 120 b = nI d) (d1 : d < 8) : cStp k A F b = cAct k A F b x d := by
  unfold cStp
  rw [if_neg h.1, if_neg h.2, hx, hd, nI_clamp (by omega), nI_clamp (by omega)]
theorem isR_at {F : FT} {b : Nat} (h : isR F b) : ¬ F 119 b = -1 := fun e => h.1 (by rw [e]; decide)
theorem RB_step {c : Nat} {A F : FT} {b : Nat} (h : RB c A F) (hc : c = 0 ∨ c = 4) (hJ : JV F) (hb : b < 8) : RB c (cStp c A F b) (mStep F b) ∧ JV (mStep F b) := by
  unfold cStp mStep
  by_cases e : F 119 b < 0
  · rw [if_pos e, if_pos e]; exact ⟨h, hJ⟩
  · rw [if_neg e, if_neg e]
    by_cases e2 : F 121 b ≤ 0
    · rw [if_pos e2, if_pos e2]; exact ⟨h, hJ⟩
    · rw [if_neg e2, if_neg e2]
      obtain ⟨x, x1, hx⟩ := hJ.1.nn hb (fun q => e (by rw [q]; decide))
      obtain ⟨d, d1, hd⟩ := (hJ.1 b hb).2
      rw [hx, hd, nI_clamp (by omega), nI_clamp (by omega)]
      exact RB_act h hc hJ hb hx x1 d1
theorem RB_tick {c : Nat} {A F : FT} (h : RB c A F) (hc : c = 0 ∨ c = 4) (hJ : JV F) : ∀ {i : Nat}, i ≤ 8 → RB c (cTck c A F i) (mTick F i) ∧ JV (mTick F i)
  | 0, _ => ⟨h, hJ⟩
  | i + 1, hi => RB_step (RB_tick h hc hJ (by omega)).1 hc (RB_tick h hc hJ (by omega)).2 (by omega)
theorem RB_run {c : Nat} (hc : c = 0 ∨ c = 4) : ∀ {n : Nat} {A F : FT}, RB c A F → JV F → RB c (cRn c A F n) (mRun F n) ∧ JV (mRun F n)
  | 0, _, _, h, hJ => ⟨h, hJ⟩
  | n + 1, A, F, h, hJ => by
    show RB c (if anyB (isR F) 8 = true then cRn c (cTck c A F 8) (mTick F 8) n else A) (if anyB (isR F) 8 = true then mRun (mTick F 8) n else F) ∧ JV (if anyB (isR F) 8 = true then mRun (mTick F 8) n else F)
    split
    · exact RB_run hc (RB_tick h hc hJ (Nat.le_refl 8)).1 (RB_tick h hc hJ (Nat.le_refl 8)).2
    · exact ⟨h, hJ⟩
def rI (A : FT) (B : Nat → Int32) (i : Nat) : FT := fun s j => if j < i then (if s = 119 then B j else if s = 120 ∨ s = 121 ∨ s = 122 then nI 0 else A s j) else A s j
theorem rI_0 (A : FT) (B : Nat → Int32) : rI A B 0 = A := by
  funext s j
  exact if_neg (fun h => by omega)
theorem rI_s (A : FT) (B : Nat → Int32) (i : Nat) : u2 (u2 (u2 (u2 (rI A B i) 119 i (B i)) 120 i (nI 0)) 121 i (nI 0)) 122 i (nI 0) = rI A B (i + 1) := by
  funext s j
  simp only [u2, rI]
  by_cases e : j = i
  · subst e
    by_cases h1 : s = 122
    · subst h1; simp
    by_cases h2 : s = 121
    · subst h2; simp
    by_cases h3 : s = 120
    · subst h3; simp
    by_cases h4 : s = 119
    · subst h4; simp
    · simp [h1, h2, h3, h4]
  · have : (j < i + 1) ↔ (j < i) := by omega
    simp only [e, and_false, if_false, this]
def r0 (A : FT) (B : Nat → Int32) (d : Nat) (z : Int32) : FT := u2 (u2 (u2 (u2 (rI A B 8) 23 0 (nI 0)) 22 0 (-1)) 120 0 (nI d)) 121 0 z
theorem r0_at {A : FT} {B : Nat → Int32} {d k : Nat} {z : Int32} (hk : k < 8) : r0 A B d z 119 k = B k := by
  unfold r0
  rw [u2_s (by decide), u2_s (by decide), u2_s (by decide), u2_s (by decide)]
  show (if k < 8 then _ else _) = _
  rw [if_pos hk]
  rfl
def DB (F : FT) (f : Nat) : Prop := ∀ i j, i < 8 → j < 8 → F 118 (8 * f + i) = F 118 (8 * f + j) → ¬ F 118 (8 * f + i) = -1 → i = j
theorem mS0_at {F : FT} {f d j : Nat} {z : Int32} (hj : j < 8) : mS0 F f d z 119 j = F 118 (8 * f + j) := by
  unfold mS0
  rw [u2_s (by decide), u2_s (by decide), u2_s (by decide), u2_s (by decide), u2_s (by decide)]
  show (if j < 8 then _ else _) = _
  rw [if_pos hj]
  rfl
theorem mS0_24 {F : FT} {f d : Nat} {z : Int32} : mS0 F f d z 24 0 = nI 0 := u2_e
theorem mS0_dB {F : FT} {f d j : Nat} {z : Int32} (hj : j < 8) : ¬ dB (mS0 F f d z) j := by
  unfold dB
  rw [mS0_24]
  exact dbit_0 hj
theorem mS0_JV {F : FT} {f d : Nat} {z : Int32} (h : BV F f) (hd : d < 8) (hD : DB F f) : JV (mS0 F f d z) := by
  refine ⟨mS0_PV h hd, fun i j hi hj => ?_, Or.inl ?_, fun k hk _ => mS0_dB hk⟩
  · rw [mS0_at hi, mS0_at hj]
    exact hD i j hi hj
  · unfold mS0
    rw [u2_s (by decide), u2_s (by decide), u2_e]
theorem RB_r0 {A F : FT} {B : Nat → Int32} {f d : Nat} {z : Int32} (hB : ∀ j, j < 8 → B j = F 118 (8 * f + j)) (hw : 0 ≤ F 118 (8 * f)) : RB 4 (r0 A B d z) (mS0 F f d z) := by
  refine ⟨fun j hj => ?_, ?_, ?_, fun g => absurd g (by decide)⟩
  · rw [r0_at hj, mS0_at hj]
    refine ⟨hB j hj, ?_, ?_, ?_⟩
    · simp [r0, mS0, u2, rI, iF, hj]
    · simp [r0, mS0, u2, rI, iF, hj, hw]
    · rw [b2_f (mS0_dB hj)]
      simp [r0, u2, rI, hj]
      rfl
  · simp [r0, mS0, u2]
  · simp [r0, mS0, u2]
theorem RB_ly {A F : FT} (h : RB 4 A F) : RB 0 (lyF A 8) F := by
  refine ⟨fun j hj => ?_, ?_, ?_, fun _ x hx => ?_⟩
  · rw [lyF_o (by decide), lyF_o (by decide), lyF_o (by decide), lyF_o (by decide)]
    exact h.1 j hj
  · rw [lyF_o (by decide)]; exact h.2.1
  · rw [lyF_o (by decide)]; exact h.2.2.1
  · show (if 123 = 123 ∧ x < 128 then _ else _) = _
    rw [if_pos ⟨rfl, hx⟩, show mIn F (nI x) = lastW (fun k => A 119 k = nI x) 8 from lastW_congr (fun j hj => by rw [(h.1 j hj).1])]
theorem C_run0 {Γ : GTy} {Y : HS} (hS : RS 0 10 1000010 Y) (A : FT) {F : FT} {B : Nat → Int32} {d a : Nat} {z : Int32} (hG : GS Γ) (ha : xK Y a = 10) (hn : xn Y a = 8) (hA : a < 1000010 + 119 ∨ 1000010 + 123 < a) (hB : ∀ j, j < 8 → xA Y a j = B j) (hV : ∀ k, k < 8 → B k = -1 ∨ ∃ c, c < 128 ∧ B k = nI c) (hR0 : RB 0 (lyF (r0 A B d z) 8) F) (hJ0 : JV F) : Tn Γ M_X6_run [.ref 10, .ref a, .int (nI d), .int z] (wB 0 10 1000010 Y A) (rt none (wB 0 10 1000010 Y (cRn 0 (lyF (r0 A B d z) 8) F 300))) := by
  refine Tn_of' rfl rfl rfl ?_
  show G Γ M_X6_run (rm M_X6_run) (Vn Γ M_X6_run (rt none (wB 0 10 1000010 Y (cRn 0 (lyF (r0 A B d z) 8) F 300)))) (0, 0) 0 [some (.ref 10), some (.ref a), some (.int (nI d)), some (.int z), none, none] [] (wB 0 10 1000010 Y A)
  have hP : ∀ k, k < 8 → r0 A B d z 119 k = -1 ∨ ∃ c, c < 128 ∧ r0 A B d z 119 k = nI c := fun k hk => by rw [r0_at hk]; exact hV k hk
  generalize hAF : (cRn 0 (lyF (r0 A B d z) 8) F 300) = AF
  have inner : ∀ (n8 i : Nat) (A9 F : FT) (t : Nat), i + n8 = 8 → RB 0 (cTck 0 A9 F i) (mTick F i) → JV (mTick F i) → (G Γ M_X6_run (rm M_X6_run) (Vn Γ M_X6_run (rt none (wB 0 10 1000010 Y AF))) (0, 0) 135 [some (.ref 10), some (.ref a), some (.int (nI d)), some (.int z), some (.int (nI t)), some (.int (nI 8))] [] (wB 0 10 1000010 Y (cTck 0 A9 F 8))) → G Γ M_X6_run (rm M_X6_run) (Vn Γ M_X6_run (rt none (wB 0 10 1000010 Y AF))) (0, 0) 107 [some (.ref 10), some (.ref a), some (.int (nI d)), some (.int z), some (.int (nI t)), some (.int (nI i))] [] (wB 0 10 1000010 Y (cTck 0 A9 F i)) := by
    intro n8
    induction n8 with
    | zero =>
      intro i A9 F t hi hR hJ hk
      obtain rfl : i = 8 := by omega
      refine G_iload (pc := 107) dX6_run_107 rfl ?_
      refine G_bipush (pc := 109) (v := nI 8) dX6_run_109 (by first | rfl | decide) ?_
      refine G_icmp_geN (pc := 111) (tgt := 135) (by omega) (by omega) dX6_run_111 (by decide) (fun c111 => ?_) (fun c111 => ?_)
      · skip
        exact hk
      · omega
    | succ n8 ih =>
      intro i A9 F t hi hR hJ hk
      have hi9 : i < 8 := by omega
      refine G_iload (pc := 107) dX6_run_107 rfl ?_
      refine G_bipush (pc := 109) (v := nI 8) dX6_run_109 (by first | rfl | decide) ?_
      refine G_icmp_geN (pc := 111) (tgt := 135) (by omega) (by omega) dX6_run_111 (by decide) (fun c111 => ?_) (fun c111 => ?_)
      · omega
      · skip
        refine G_aload_n (pc := 114) dX6_run_114 rfl ?_
        refine G_iload (pc := 115) dX6_run_115 rfl ?_
        refine K_U1r (pc := 117) (cb := 0) (k' := (0, 0)) mok_X6_isRolling lk_X6_39_0 rfl hS.1 rfl rfl (aok0 rfl) dX6_run_117 (C_isRolling0 hS _ hR hJ.1 hi9) rfl ?_
        refine G_if_eqB (pc := 120) (tgt := 129) dX6_run_120 (by decide) (fun c120 => ?_) (fun c120 => ?_)
        · skip
          have e : cTck 0 A9 F (i + 1) = cTck 0 A9 F i := cStp_n c120
          refine G_iincN (pc := 129) dX6_run_129 rfl (by decide) ?_
          refine G_goto (pc := 132) (tgt := 107) dX6_run_132 (by decide) ?_
          have q9 := RB_step hR (by decide) hJ hi9
          have h9 := ih (i + 1) A9 F t (by omega) q9.1 q9.2 hk
          rw [e] at h9
          exact h9
        · skip
          obtain ⟨x, x1, hx⟩ := hJ.1.nn hi9 (isR_at c120)
          obtain ⟨d9, d1, hd⟩ := (hJ.1 i hi9).2
          have e : cTck 0 A9 F (i + 1) = cAct 0 (cTck 0 A9 F i) (mTick F i) i x d9 := cStp_y c120 hx x1 hd d1
          refine G_aload_n (pc := 123) dX6_run_123 rfl ?_
          refine G_iload (pc := 124) dX6_run_124 rfl ?_
          refine K_U1v (pc := 126) (cb := 0) (k' := (0, 0)) mok_X6_act lk_X6_43_0 rfl hS.1 rfl rfl (aok0 rfl) dX6_run_126 (C_act0 hS _ hR hJ hG hi9 hx x1 hd d1) rfl ?_
          refine G_iincN (pc := 129) dX6_run_129 rfl (by decide) ?_
          refine G_goto (pc := 132) (tgt := 107) dX6_run_132 (by decide) ?_
          have q9 := RB_step hR (by decide) hJ hi9
          have h9 := ih (i + 1) A9 F t (by omega) q9.1 q9.2 hk
          rw [e] at h9
          exact h9
  have loop : ∀ (n9 j : Nat) (v5 : Option Value) (A9 F : FT), j + n9 = 300 → RB 0 A9 F → JV F → cRn 0 A9 F n9 = AF → G Γ M_X6_run (rm M_X6_run) (Vn Γ M_X6_run (rt none (wB 0 10 1000010 Y AF))) (0, 0) 89 [some (.ref 10), some (.ref a), some (.int (nI d)), some (.int z), some (.int (nI j)), v5] [] (wB 0 10 1000010 Y A9) := by
    intro n9
    induction n9 with
    | zero =>
      intro j v5 A9 F hj hR hJ hq
      obtain rfl : j = 300 := by omega
      refine G_iload (pc := 89) dX6_run_89 rfl ?_
      refine G_sipush (pc := 91) (v := nI 300) dX6_run_91 (by first | rfl | decide) ?_
      refine G_icmp_geN (pc := 94) (tgt := 141) (by omega) (by omega) dX6_run_94 (by decide) (fun c94 => ?_) (fun c94 => ?_)
      · skip
        refine G_vret (pc := 141) VZ.n dX6_run_141 rfl ⟨by decide, by decide⟩ ?_
        first
          | exact ⟨rfl, congrArg (wB 0 10 1000010 Y) hq2⟩
          | exact ⟨rfl, congrArg (wB 0 10 1000010 Y) hq⟩
      · omega
    | succ n9 ih =>
      intro j v5 A9 F hj hR hJ hq
      have hj9 : j < 300 := by omega
      refine G_iload (pc := 89) dX6_run_89 rfl ?_
      refine G_sipush (pc := 91) (v := nI 300) dX6_run_91 (by first | rfl | decide) ?_
      refine G_icmp_geN (pc := 94) (tgt := 141) (by omega) (by omega) dX6_run_94 (by decide) (fun c94 => ?_) (fun c94 => ?_)
      · omega
      · skip
        refine G_aload_n (pc := 97) dX6_run_97 rfl ?_
        refine K_U0r (pc := 98) (cb := 0) (k' := (0, 0)) mok_X6_isSomeRolling lk_X6_35_0 rfl hS.1 rfl rfl (aok0 rfl) dX6_run_98 (C_isSome0 hS _ hR hJ.1) rfl ?_
        refine G_if_eqB (pc := 101) (tgt := 141) dX6_run_101 (by decide) (fun c101 => ?_) (fun c101 => ?_)
        · skip
          have hq2 := hq
          rw [show cRn 0 A9 F (n9 + 1) = A9 from if_neg c101] at hq2
          refine G_vret (pc := 141) VZ.n dX6_run_141 rfl ⟨by decide, by decide⟩ ?_
          first
            | exact ⟨rfl, congrArg (wB 0 10 1000010 Y) hq2⟩
            | exact ⟨rfl, congrArg (wB 0 10 1000010 Y) hq⟩
        · skip
          have hq2 := hq
          rw [show cRn 0 A9 F (n9 + 1) = cRn 0 (cTck 0 A9 F 8) (mTick F 8) n9 from if_pos c101] at hq2
          refine G_iconst (pc := 104) (v := nI 0) dX6_run_104 (by first | rfl | decide) ?_
          refine G_istore (pc := 105) dX6_run_105 (by decide) ?_
          have q9 := RB_tick hR (by decide) hJ (Nat.le_refl 8)
          refine inner 8 0 A9 F j rfl hR hJ ?_
          refine G_iincN (pc := 135) dX6_run_135 rfl (by decide) ?_
          refine G_goto (pc := 138) (tgt := 89) dX6_run_138 (by decide) ?_
          exact ih (j + 1) _ _ _ (by omega) q9.1 q9.2 hq2
  have rest : ∀ v5 : Option Value, G Γ M_X6_run (rm M_X6_run) (Vn Γ M_X6_run (rt none (wB 0 10 1000010 Y AF))) (0, 0) 58 [some (.ref 10), some (.ref a), some (.int (nI d)), some (.int z), some (.int (nI 8)), v5] [] (wB 0 10 1000010 Y (rI A B 8)) := by
    intro v5
    refine G_aload_n (pc := 58) dX6_run_58 rfl ?_
    refine G_iconst (pc := 59) (v := nI 0) dX6_run_59 (by first | rfl | decide) ?_
    refine B_put (pc := 60) (kk := 4) hS fl_X6_25_0 fw_0_4 (by decide) dX6_run_60 ?_
    refine G_aload_n (pc := 63) dX6_run_63 rfl ?_
    refine G_iconst (pc := 64) (v := -1) dX6_run_64 (by first | rfl | decide) ?_
    refine B_put (pc := 65) (kk := 5) hS fl_X6_29_0 fw_0_5 (by decide) dX6_run_65 ?_
    refine G_aload_n (pc := 68) dX6_run_68 rfl ?_
    refine B_arr (pc := 69) (a := 1000130) hS fl_X6_15_0 rfl rfl dX6_run_69 ?_
    refine G_iconst (pc := 72) (v := nI 0) dX6_run_72 (by first | rfl | decide) ?_
    refine G_iload_n (pc := 73) dX6_run_73 rfl ?_
    refine B_st (pc := 74) (kk := 1) (j := 0) hS rfl rfl rfl (by decide) dX6_run_74 ?_
    refine G_aload_n (pc := 75) dX6_run_75 rfl ?_
    refine B_arr (pc := 76) (a := 1000131) hS fl_X6_18_0 rfl rfl dX6_run_76 ?_
    refine G_iconst (pc := 79) (v := nI 0) dX6_run_79 (by first | rfl | decide) ?_
    refine G_iload_n (pc := 80) dX6_run_80 rfl ?_
    refine B_st (pc := 81) (kk := 2) (j := 0) hS rfl rfl rfl (by decide) dX6_run_81 ?_
    refine G_aload_n (pc := 82) dX6_run_82 rfl ?_
    show G _ _ _ _ _ _ _ _ (wB 0 10 1000010 Y (r0 A B d z))
    refine K_U0v (pc := 83) (cb := 0) (k' := (0, 0)) mok_X0_lay lk_X6_32_0 rfl hS.1 rfl rfl (aok0 rfl) dX6_run_83 (C_lay0 hS (r0 A B d z) hP) rfl ?_
    refine G_iconst (pc := 86) (v := nI 0) dX6_run_86 (by first | rfl | decide) ?_
    refine G_istore (pc := 87) dX6_run_87 (by decide) ?_
    exact loop 300 0 _ _ _ rfl hR0 hJ0 hAF
  have loop0 : ∀ (n9 j : Nat), j + n9 = 8 → G Γ M_X6_run (rm M_X6_run) (Vn Γ M_X6_run (rt none (wB 0 10 1000010 Y AF))) (0, 0) 3 [some (.ref 10), some (.ref a), some (.int (nI d)), some (.int z), some (.int (nI j)), none] [] (wB 0 10 1000010 Y (rI A B j)) := by
    intro n9
    induction n9 with
    | zero =>
      intro j hj
      obtain rfl : j = 8 := by omega
      refine G_iload (pc := 3) dX6_run_3 rfl ?_
      refine G_bipush (pc := 5) (v := nI 8) dX6_run_5 (by first | rfl | decide) ?_
      refine G_icmp_geN (pc := 7) (tgt := 58) (by omega) (by omega) dX6_run_7 (by decide) (fun c7 => ?_) (fun c7 => ?_)
      · skip
        exact rest none
      · omega
    | succ n9 ih =>
      intro j hj
      have hj9 : j < 8 := by omega
      refine G_iload (pc := 3) dX6_run_3 rfl ?_
      refine G_bipush (pc := 5) (v := nI 8) dX6_run_5 (by first | rfl | decide) ?_
      refine G_icmp_geN (pc := 7) (tgt := 58) (by omega) (by omega) dX6_run_7 (by decide) (fun c7 => ?_) (fun c7 => ?_)
      · omega
      · skip
        refine G_iload (pc := 10) dX6_run_10 rfl ?_
        refine G_aload_n (pc := 12) dX6_run_12 rfl ?_
        refine G_alen (pc := 13) (v := nI 8) ha (by decide) (congrArg nI hn) dX6_run_13 ?_
        refine G_icmp_geN (pc := 14) (tgt := 58) (by omega) (by omega) dX6_run_14 (by decide) (fun c14 => ?_) (fun c14 => ?_)
        · omega
        · skip
          refine G_aload_n (pc := 17) dX6_run_17 rfl ?_
          refine B_arr (pc := 18) (a := 1000129) hS fl_X6_9_0 rfl rfl dX6_run_18 ?_
          refine G_iload (pc := 21) dX6_run_21 rfl ?_
          refine G_aload_n (pc := 23) dX6_run_23 rfl ?_
          refine G_iload (pc := 24) dX6_run_24 rfl ?_
          refine G_iald (pc := 26) (j := j) ha rfl (Nat.lt_of_lt_of_eq hj9 hn.symm) (by omega) dX6_run_26 ?_
          rw [wB_Ax hA, hB j hj9]
          refine B_st (pc := 27) (kk := 0) (j := j) hS rfl rfl rfl hj9 dX6_run_27 ?_
          refine G_aload_n (pc := 28) dX6_run_28 rfl ?_
          refine B_arr (pc := 29) (a := 1000130) hS fl_X6_15_0 rfl rfl dX6_run_29 ?_
          refine G_iload (pc := 32) dX6_run_32 rfl ?_
          refine G_iconst (pc := 34) (v := nI 0) dX6_run_34 (by first | rfl | decide) ?_
          refine B_st (pc := 35) (kk := 1) (j := j) hS rfl rfl rfl hj9 dX6_run_35 ?_
          refine G_aload_n (pc := 36) dX6_run_36 rfl ?_
          refine B_arr (pc := 37) (a := 1000131) hS fl_X6_18_0 rfl rfl dX6_run_37 ?_
          refine G_iload (pc := 40) dX6_run_40 rfl ?_
          refine G_iconst (pc := 42) (v := nI 0) dX6_run_42 (by first | rfl | decide) ?_
          refine B_st (pc := 43) (kk := 2) (j := j) hS rfl rfl rfl hj9 dX6_run_43 ?_
          refine G_aload_n (pc := 44) dX6_run_44 rfl ?_
          refine B_arr (pc := 45) (a := 1000132) hS fl_X6_21_0 rfl rfl dX6_run_45 ?_
          refine G_iload (pc := 48) dX6_run_48 rfl ?_
          refine G_iconst (pc := 50) (v := nI 0) dX6_run_50 (by first | rfl | decide) ?_
          refine B_bst (pc := 51) (kk := 3) (j := j) hS rfl rfl rfl hj9 (Or.inl rfl) dX6_run_51 ?_
          refine G_iincN (pc := 52) dX6_run_52 rfl (by decide) ?_
          refine G_goto (pc := 55) (tgt := 3) dX6_run_55 (by decide) ?_
          have h9 := ih (j + 1) (by omega)
          rw [← rI_s] at h9
          exact h9
  refine G_iconst (pc := 0) (v := nI 0) dX6_run_0 (by first | rfl | decide) ?_
  refine G_istore (pc := 1) dX6_run_1 (by decide) ?_
  have h9 := loop0 8 0 rfl
  rw [rI_0] at h9
  exact h9
theorem run_ok0 {Γ : GTy} {Y : HS} (hS : RS 0 10 1000010 Y) (A : FT) {F : FT} {f d a : Nat} {z : Int32} (hG : GS Γ) (ha : xK Y a = 10) (hn : xn Y a = 8) (hA : a < 1000010 + 119 ∨ 1000010 + 123 < a) (hB : ∀ j, j < 8 → xA Y a j = F 118 (8 * f + j)) (hV : BV F f) (hD : DB F f) (hw : ¬ F 118 (8 * f) = -1) (d8 : d < 8) : ∃ A', RB 0 A' (mShot F f d z) ∧ JV (mShot F f d z) ∧ Tn Γ M_X6_run [.ref 10, .ref a, .int (nI d), .int z] (wB 0 10 1000010 Y A) (rt none (wB 0 10 1000010 Y A')) := by
  have hw0 : 0 ≤ F 118 (8 * f) := by
    rcases hV 0 (by decide) with e | ⟨c, hc, e⟩
    · exact absurd e hw
    · rw [show F 118 (8 * f) = nI c from e]; exact nI_pos' (by omega)
  have h4 := RB_r0 (A := A) (B := fun j => F 118 (8 * f + j)) (d := d) (z := z) (fun j _ => rfl) hw0
  have hJ := mS0_JV (z := z) hV d8 hD
  have hR := RB_ly h4
  have h9 := RB_run (n := 300) (by decide) hR hJ
  exact ⟨_, h9.1, h9.2, C_run0 hS A hG ha hn hA hB hV hR hJ⟩
theorem C_run4 {Γ : GTy} {Y : HS} (hS : RS 4 400010 1400010 Y) (A : FT) {F : FT} {B : Nat → Int32} {d a : Nat} {z : Int32} (hG : GS Γ) (ha : xK Y a = 10) (hn : xn Y a = 8) (hA : a < 1400010 + 119 ∨ 1400010 + 123 < a) (hB : ∀ j, j < 8 → xA Y a j = B j) (hV : ∀ k, k < 8 → B k = -1 ∨ ∃ c, c < 128 ∧ B k = nI c) (hR0 : RB 4 (r0 A B d z) F) (hJ0 : JV F) : Tn Γ M_X6_run [.ref 400010, .ref a, .int (nI d), .int z] (wB 4 400010 1400010 Y A) (rt none (wB 4 400010 1400010 Y (cRn 4 (r0 A B d z) F 300))) := by
  refine Tn_of' rfl rfl rfl ?_
  show G Γ M_X6_run (rm M_X6_run) (Vn Γ M_X6_run (rt none (wB 4 400010 1400010 Y (cRn 4 (r0 A B d z) F 300)))) (0, 0) 0 [some (.ref 400010), some (.ref a), some (.int (nI d)), some (.int z), none, none] [] (wB 4 400010 1400010 Y A)
  generalize hAF : (cRn 4 (r0 A B d z) F 300) = AF
  have inner : ∀ (n8 i : Nat) (A9 F : FT) (t : Nat), i + n8 = 8 → RB 4 (cTck 4 A9 F i) (mTick F i) → JV (mTick F i) → (G Γ M_X6_run (rm M_X6_run) (Vn Γ M_X6_run (rt none (wB 4 400010 1400010 Y AF))) (0, 0) 135 [some (.ref 400010), some (.ref a), some (.int (nI d)), some (.int z), some (.int (nI t)), some (.int (nI 8))] [] (wB 4 400010 1400010 Y (cTck 4 A9 F 8))) → G Γ M_X6_run (rm M_X6_run) (Vn Γ M_X6_run (rt none (wB 4 400010 1400010 Y AF))) (0, 0) 107 [some (.ref 400010), some (.ref a), some (.int (nI d)), some (.int z), some (.int (nI t)), some (.int (nI i))] [] (wB 4 400010 1400010 Y (cTck 4 A9 F i)) := by
    intro n8
    induction n8 with
    | zero =>
      intro i A9 F t hi hR hJ hk
      obtain rfl : i = 8 := by omega
      refine G_iload (pc := 107) dX6_run_107 rfl ?_
      refine G_bipush (pc := 109) (v := nI 8) dX6_run_109 (by first | rfl | decide) ?_
      refine G_icmp_geN (pc := 111) (tgt := 135) (by omega) (by omega) dX6_run_111 (by decide) (fun c111 => ?_) (fun c111 => ?_)
      · skip
        exact hk
      · omega
    | succ n8 ih =>
      intro i A9 F t hi hR hJ hk
      have hi9 : i < 8 := by omega
      refine G_iload (pc := 107) dX6_run_107 rfl ?_
      refine G_bipush (pc := 109) (v := nI 8) dX6_run_109 (by first | rfl | decide) ?_
      refine G_icmp_geN (pc := 111) (tgt := 135) (by omega) (by omega) dX6_run_111 (by decide) (fun c111 => ?_) (fun c111 => ?_)
      · omega
      · skip
        refine G_aload_n (pc := 114) dX6_run_114 rfl ?_
        refine G_iload (pc := 115) dX6_run_115 rfl ?_
        refine K_U1r (pc := 117) (cb := 4) (k' := (0, 0)) mok_X6_isRolling lk_X6_39_4 rfl hS.1 rfl rfl (aok0 rfl) dX6_run_117 (C_isRolling4 hS _ hR hJ.1 hi9) rfl ?_
        refine G_if_eqB (pc := 120) (tgt := 129) dX6_run_120 (by decide) (fun c120 => ?_) (fun c120 => ?_)
        · skip
          have e : cTck 4 A9 F (i + 1) = cTck 4 A9 F i := cStp_n c120
          refine G_iincN (pc := 129) dX6_run_129 rfl (by decide) ?_
          refine G_goto (pc := 132) (tgt := 107) dX6_run_132 (by decide) ?_
          have q9 := RB_step hR (by decide) hJ hi9
          have h9 := ih (i + 1) A9 F t (by omega) q9.1 q9.2 hk
          rw [e] at h9
          exact h9
        · skip
          obtain ⟨x, x1, hx⟩ := hJ.1.nn hi9 (isR_at c120)
          obtain ⟨d9, d1, hd⟩ := (hJ.1 i hi9).2
          have e : cTck 4 A9 F (i + 1) = cAct 4 (cTck 4 A9 F i) (mTick F i) i x d9 := cStp_y c120 hx x1 hd d1
          refine G_aload_n (pc := 123) dX6_run_123 rfl ?_
          refine G_iload (pc := 124) dX6_run_124 rfl ?_
          refine K_U1v (pc := 126) (cb := 4) (k' := (0, 0)) mok_X6_act lk_X6_43_4 rfl hS.1 rfl rfl (aok0 rfl) dX6_run_126 (C_act4 hS _ hR hJ hG hi9 hx x1 hd d1) rfl ?_
          refine G_iincN (pc := 129) dX6_run_129 rfl (by decide) ?_
          refine G_goto (pc := 132) (tgt := 107) dX6_run_132 (by decide) ?_
          have q9 := RB_step hR (by decide) hJ hi9
          have h9 := ih (i + 1) A9 F t (by omega) q9.1 q9.2 hk
          rw [e] at h9
          exact h9
  have loop : ∀ (n9 j : Nat) (v5 : Option Value) (A9 F : FT), j + n9 = 300 → RB 4 A9 F → JV F → cRn 4 A9 F n9 = AF → G Γ M_X6_run (rm M_X6_run) (Vn Γ M_X6_run (rt none (wB 4 400010 1400010 Y AF))) (0, 0) 89 [some (.ref 400010), some (.ref a), some (.int (nI d)), some (.int z), some (.int (nI j)), v5] [] (wB 4 400010 1400010 Y A9) := by
    intro n9
    induction n9 with
    | zero =>
      intro j v5 A9 F hj hR hJ hq
      obtain rfl : j = 300 := by omega
      refine G_iload (pc := 89) dX6_run_89 rfl ?_
      refine G_sipush (pc := 91) (v := nI 300) dX6_run_91 (by first | rfl | decide) ?_
      refine G_icmp_geN (pc := 94) (tgt := 141) (by omega) (by omega) dX6_run_94 (by decide) (fun c94 => ?_) (fun c94 => ?_)
      · skip
        refine G_vret (pc := 141) VZ.n dX6_run_141 rfl ⟨by decide, by decide⟩ ?_
        first
          | exact ⟨rfl, congrArg (wB 4 400010 1400010 Y) hq2⟩
          | exact ⟨rfl, congrArg (wB 4 400010 1400010 Y) hq⟩
      · omega
    | succ n9 ih =>
      intro j v5 A9 F hj hR hJ hq
      have hj9 : j < 300 := by omega
      refine G_iload (pc := 89) dX6_run_89 rfl ?_
      refine G_sipush (pc := 91) (v := nI 300) dX6_run_91 (by first | rfl | decide) ?_
      refine G_icmp_geN (pc := 94) (tgt := 141) (by omega) (by omega) dX6_run_94 (by decide) (fun c94 => ?_) (fun c94 => ?_)
      · omega
      · skip
        refine G_aload_n (pc := 97) dX6_run_97 rfl ?_
        refine K_U0r (pc := 98) (cb := 4) (k' := (0, 0)) mok_X6_isSomeRolling lk_X6_35_4 rfl hS.1 rfl rfl (aok0 rfl) dX6_run_98 (C_isSome4 hS _ hR hJ.1) rfl ?_
        refine G_if_eqB (pc := 101) (tgt := 141) dX6_run_101 (by decide) (fun c101 => ?_) (fun c101 => ?_)
        · skip
          have hq2 := hq
          rw [show cRn 4 A9 F (n9 + 1) = A9 from if_neg c101] at hq2
          refine G_vret (pc := 141) VZ.n dX6_run_141 rfl ⟨by decide, by decide⟩ ?_
          first
            | exact ⟨rfl, congrArg (wB 4 400010 1400010 Y) hq2⟩
            | exact ⟨rfl, congrArg (wB 4 400010 1400010 Y) hq⟩
        · skip
          have hq2 := hq
          rw [show cRn 4 A9 F (n9 + 1) = cRn 4 (cTck 4 A9 F 8) (mTick F 8) n9 from if_pos c101] at hq2
          refine G_iconst (pc := 104) (v := nI 0) dX6_run_104 (by first | rfl | decide) ?_
          refine G_istore (pc := 105) dX6_run_105 (by decide) ?_
          have q9 := RB_tick hR (by decide) hJ (Nat.le_refl 8)
          refine inner 8 0 A9 F j rfl hR hJ ?_
          refine G_iincN (pc := 135) dX6_run_135 rfl (by decide) ?_
          refine G_goto (pc := 138) (tgt := 89) dX6_run_138 (by decide) ?_
          exact ih (j + 1) _ _ _ (by omega) q9.1 q9.2 hq2
  have rest : ∀ v5 : Option Value, G Γ M_X6_run (rm M_X6_run) (Vn Γ M_X6_run (rt none (wB 4 400010 1400010 Y AF))) (0, 0) 58 [some (.ref 400010), some (.ref a), some (.int (nI d)), some (.int z), some (.int (nI 8)), v5] [] (wB 4 400010 1400010 Y (rI A B 8)) := by
    intro v5
    refine G_aload_n (pc := 58) dX6_run_58 rfl ?_
    refine G_iconst (pc := 59) (v := nI 0) dX6_run_59 (by first | rfl | decide) ?_
    refine B_put (pc := 60) (kk := 4) hS fl_X6_25_4 fw_4_4 (by decide) dX6_run_60 ?_
    refine G_aload_n (pc := 63) dX6_run_63 rfl ?_
    refine G_iconst (pc := 64) (v := -1) dX6_run_64 (by first | rfl | decide) ?_
    refine B_put (pc := 65) (kk := 5) hS fl_X6_29_4 fw_4_5 (by decide) dX6_run_65 ?_
    refine G_aload_n (pc := 68) dX6_run_68 rfl ?_
    refine B_arr (pc := 69) (a := 1400130) hS fl_X6_15_4 rfl rfl dX6_run_69 ?_
    refine G_iconst (pc := 72) (v := nI 0) dX6_run_72 (by first | rfl | decide) ?_
    refine G_iload_n (pc := 73) dX6_run_73 rfl ?_
    refine B_st (pc := 74) (kk := 1) (j := 0) hS rfl rfl rfl (by decide) dX6_run_74 ?_
    refine G_aload_n (pc := 75) dX6_run_75 rfl ?_
    refine B_arr (pc := 76) (a := 1400131) hS fl_X6_18_4 rfl rfl dX6_run_76 ?_
    refine G_iconst (pc := 79) (v := nI 0) dX6_run_79 (by first | rfl | decide) ?_
    refine G_iload_n (pc := 80) dX6_run_80 rfl ?_
    refine B_st (pc := 81) (kk := 2) (j := 0) hS rfl rfl rfl (by decide) dX6_run_81 ?_
    refine G_aload_n (pc := 82) dX6_run_82 rfl ?_
    show G _ _ _ _ _ _ _ _ (wB 4 400010 1400010 Y (r0 A B d z))
    refine K_U0v (pc := 83) (cb := 4) (k' := (0, 0)) mok_X4_lay lk_X6_32_4 rfl hS.1 rfl rfl (aok0 rfl) dX6_run_83 (C_lay4 hS _) rfl ?_
    refine G_iconst (pc := 86) (v := nI 0) dX6_run_86 (by first | rfl | decide) ?_
    refine G_istore (pc := 87) dX6_run_87 (by decide) ?_
    exact loop 300 0 _ _ _ rfl hR0 hJ0 hAF
  have loop0 : ∀ (n9 j : Nat), j + n9 = 8 → G Γ M_X6_run (rm M_X6_run) (Vn Γ M_X6_run (rt none (wB 4 400010 1400010 Y AF))) (0, 0) 3 [some (.ref 400010), some (.ref a), some (.int (nI d)), some (.int z), some (.int (nI j)), none] [] (wB 4 400010 1400010 Y (rI A B j)) := by
    intro n9
    induction n9 with
    | zero =>
      intro j hj
      obtain rfl : j = 8 := by omega
      refine G_iload (pc := 3) dX6_run_3 rfl ?_
      refine G_bipush (pc := 5) (v := nI 8) dX6_run_5 (by first | rfl | decide) ?_
      refine G_icmp_geN (pc := 7) (tgt := 58) (by omega) (by omega) dX6_run_7 (by decide) (fun c7 => ?_) (fun c7 => ?_)
      · skip
        exact rest none
      · omega
    | succ n9 ih =>
      intro j hj
      have hj9 : j < 8 := by omega
      refine G_iload (pc := 3) dX6_run_3 rfl ?_
      refine G_bipush (pc := 5) (v := nI 8) dX6_run_5 (by first | rfl | decide) ?_
      refine G_icmp_geN (pc := 7) (tgt := 58) (by omega) (by omega) dX6_run_7 (by decide) (fun c7 => ?_) (fun c7 => ?_)
      · omega
      · skip
        refine G_iload (pc := 10) dX6_run_10 rfl ?_
        refine G_aload_n (pc := 12) dX6_run_12 rfl ?_
        refine G_alen (pc := 13) (v := nI 8) ha (by decide) (congrArg nI hn) dX6_run_13 ?_
        refine G_icmp_geN (pc := 14) (tgt := 58) (by omega) (by omega) dX6_run_14 (by decide) (fun c14 => ?_) (fun c14 => ?_)
        · omega
        · skip
          refine G_aload_n (pc := 17) dX6_run_17 rfl ?_
          refine B_arr (pc := 18) (a := 1400129) hS fl_X6_9_4 rfl rfl dX6_run_18 ?_
          refine G_iload (pc := 21) dX6_run_21 rfl ?_
          refine G_aload_n (pc := 23) dX6_run_23 rfl ?_
          refine G_iload (pc := 24) dX6_run_24 rfl ?_
          refine G_iald (pc := 26) (j := j) ha rfl (Nat.lt_of_lt_of_eq hj9 hn.symm) (by omega) dX6_run_26 ?_
          rw [wB_Ax hA, hB j hj9]
          refine B_st (pc := 27) (kk := 0) (j := j) hS rfl rfl rfl hj9 dX6_run_27 ?_
          refine G_aload_n (pc := 28) dX6_run_28 rfl ?_
          refine B_arr (pc := 29) (a := 1400130) hS fl_X6_15_4 rfl rfl dX6_run_29 ?_
          refine G_iload (pc := 32) dX6_run_32 rfl ?_
          refine G_iconst (pc := 34) (v := nI 0) dX6_run_34 (by first | rfl | decide) ?_
          refine B_st (pc := 35) (kk := 1) (j := j) hS rfl rfl rfl hj9 dX6_run_35 ?_
          refine G_aload_n (pc := 36) dX6_run_36 rfl ?_
          refine B_arr (pc := 37) (a := 1400131) hS fl_X6_18_4 rfl rfl dX6_run_37 ?_
          refine G_iload (pc := 40) dX6_run_40 rfl ?_
          refine G_iconst (pc := 42) (v := nI 0) dX6_run_42 (by first | rfl | decide) ?_
          refine B_st (pc := 43) (kk := 2) (j := j) hS rfl rfl rfl hj9 dX6_run_43 ?_
          refine G_aload_n (pc := 44) dX6_run_44 rfl ?_
          refine B_arr (pc := 45) (a := 1400132) hS fl_X6_21_4 rfl rfl dX6_run_45 ?_
          refine G_iload (pc := 48) dX6_run_48 rfl ?_
          refine G_iconst (pc := 50) (v := nI 0) dX6_run_50 (by first | rfl | decide) ?_
          refine B_bst (pc := 51) (kk := 3) (j := j) hS rfl rfl rfl hj9 (Or.inl rfl) dX6_run_51 ?_
          refine G_iincN (pc := 52) dX6_run_52 rfl (by decide) ?_
          refine G_goto (pc := 55) (tgt := 3) dX6_run_55 (by decide) ?_
          have h9 := ih (j + 1) (by omega)
          rw [← rI_s] at h9
          exact h9
  refine G_iconst (pc := 0) (v := nI 0) dX6_run_0 (by first | rfl | decide) ?_
  refine G_istore (pc := 1) dX6_run_1 (by decide) ?_
  have h9 := loop0 8 0 rfl
  rw [rI_0] at h9
  exact h9
theorem run_ok4 {Γ : GTy} {Y : HS} (hS : RS 4 400010 1400010 Y) (A : FT) {F : FT} {f d a : Nat} {z : Int32} (hG : GS Γ) (ha : xK Y a = 10) (hn : xn Y a = 8) (hA : a < 1400010 + 119 ∨ 1400010 + 123 < a) (hB : ∀ j, j < 8 → xA Y a j = F 118 (8 * f + j)) (hV : BV F f) (hD : DB F f) (hw : ¬ F 118 (8 * f) = -1) (d8 : d < 8) : ∃ A', RB 4 A' (mShot F f d z) ∧ JV (mShot F f d z) ∧ Tn Γ M_X6_run [.ref 400010, .ref a, .int (nI d), .int z] (wB 4 400010 1400010 Y A) (rt none (wB 4 400010 1400010 Y A')) := by
  have hw0 : 0 ≤ F 118 (8 * f) := by
    rcases hV 0 (by decide) with e | ⟨c, hc, e⟩
    · exact absurd e hw
    · rw [show F 118 (8 * f) = nI c from e]; exact nI_pos' (by omega)
  have h4 := RB_r0 (A := A) (B := fun j => F 118 (8 * f + j)) (d := d) (z := z) (fun j _ => rfl) hw0
  have hJ := mS0_JV (z := z) hV d8 hD
  have hR := h4
  have h9 := RB_run (n := 300) (by decide) hR hJ
  exact ⟨_, h9.1, h9.2, C_run4 hS A hG ha hn hA hB hV hR hJ⟩
