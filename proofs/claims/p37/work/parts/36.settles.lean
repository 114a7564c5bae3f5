-- ===== the class: a frame settles a shot =====
theorem u2_comm {F : FT} {s j s' j' : Nat} {v v' : Int32} (h : s ≠ s') : u2 (u2 F s j v) s' j' v' = u2 (u2 F s' j' v') s j v := by
  funext a b
  simp only [u2]
  by_cases e : a = s ∧ b = j
  · by_cases g : a = s' ∧ b = j'
    · exact absurd (e.1.symm.trans g.1) h
    · rw [if_neg g, if_pos e, if_pos e]
  · rw [if_neg e, if_neg e]
theorem lowF_nn {F : FT} {f : Nat} (h : ¬ lowF F f = -1) : ∃ k, 1 ≤ k ∧ k < 8 ∧ ¬ F 118 (8 * f + k) < 0 ∧ lowF F f = nI k := by
  rcases lowA_spec (p := fun k => ¬ F 118 (8 * f + k) < 0) (Nat.le_refl 7) with ⟨h1, -⟩ | ⟨k, h1, h2, h3, h4⟩
  · exact absurd h1 h
  · exact ⟨k, h1, h2, h3, h4⟩
theorem fs_k {k : Nat} (h1 : 6 ≤ k) (h2 : k ≤ 10) : fs k ≠ 104 ∧ fs k ≠ 113 ∧ fs k ≠ 118 ∧ fs k ≠ 119 := by
  have : k = 6 ∨ k = 7 ∨ k = 8 ∨ k = 9 ∨ k = 10 := by omega
  rcases this with rfl | rfl | rfl | rfl | rfl <;> decide
theorem over_wF {f p e u : Nat} {Y : HS} {X : FT} : wF f p e Y (u2 X 117 f (X 111 (2 * f + overI X f u))) = wF f p e Y (mOver X f u) := by
  unfold mOver
  refine wF_congr (fun k h1 h2 => ?_) (fun j hj => ?_)
  · obtain ⟨g1, g2, -, -⟩ := fs_k h1 h2
    rw [hF_o (Or.inl g1), u2_s (s := 113) g2]
  · rw [hF_o (Or.inl (by decide)), u2_s (s := 113) (by decide)]
def fX (K : FT) (f u : Nat) (on : Int32) (k : Nat) : FT := u2 (u2 (fF K f k) 114 f (nI (1 - u))) 115 (2 * f + (1 - u)) (K 115 (2 * f + (1 - u)) + fSum on)
theorem fX_n {K : FT} {f u k : Nat} {on : Int32} (h : ¬ dB K k) : fX K f u on (k + 1) = fX K f u on k := by
  unfold fX
  rw [show fF K f (k + 1) = fF K f k from if_neg h]
theorem fX_s {K : FT} {f u k p e : Nat} {on : Int32} {Y : HS} (h : dB K k) : wF f p e Y (u2 (fX K f u on k) 118 (8 * f + k) (nI (cbC (fF K f k) k))) = wF f p e Y (fX K f u on (k + 1)) := by
  have e9 : fF K f (k + 1) = cbF (fF K f k) f k := if_pos h
  unfold fX
  rw [e9]
  refine wF_congr (fun i h1 h2 => ?_) (fun j hj => ?_)
  · obtain ⟨-, -, g3, g4⟩ := fs_k h1 h2
    rw [u2_s (s := 118) g3]
    simp only [u2, cb_s (E := fF K f k) (f := f) (k := k) (j := fj f i) ⟨g3, g4⟩]
  · rw [u2_s (s := 115) (s' := 118) (by decide), u2_s (s := 114) (s' := 118) (by decide), cb_bl]
    by_cases q : j = k
    · rw [if_pos q, q, u2_e]
    · rw [if_neg q, u2_j (by omega), u2_s (s := 115) (s' := 118) (by decide), u2_s (s := 114) (s' := 118) (by decide)]
theorem kF_c {W : FT} {f j : Nat} (hj : j < 8) : kF W f 8 118 (8 * f + j) = W 119 j := by
  have : 8 * f + j - 8 * f = j := by omega
  exact (if_pos ⟨rfl, by omega, by omega⟩).trans (by rw [this])
theorem shE_foul {W : FT} {f u : Nat} {on : Int32} (hJ : JV W) (hd : dB W 0 ↔ W 119 0 = -1) (h : dB W 0 ∨ W 22 0 = -1 ∨ (¬ W 22 0 = on ∧ W 116 f = 0)) : mShE W f u on = mFouls (kF W f 8) f u on := by
  unfold mShE
  by_cases e : W 119 0 < 0
  · rw [if_pos e]
  · rw [if_neg e]
    by_cases e2 : W 22 0 < 0
    · rw [if_pos e2]
    · rw [if_neg e2]
      rcases h with h | h | h
      · exact absurd (by rw [hd.mp h]; decide) e
      · exact absurd (by rw [h]; decide) e2
      · rw [if_neg h.1, if_pos h.2]
theorem shE_fair {W : FT} {f u : Nat} {on : Int32} (hJ : JV W) (hd : dB W 0 ↔ W 119 0 = -1) (h : ¬ (dB W 0 ∨ W 22 0 = -1 ∨ (¬ W 22 0 = on ∧ W 116 f = 0))) : mShE W f u on = mScores (kF W f 8) f u := by
  unfold mShE
  have h1 : ¬ W 119 0 < 0 := hJ.1.nl (by decide) (fun q => h (Or.inl (hd.mpr q)))
  have h2 : ¬ W 22 0 < 0 := by
    rcases hJ.2.2.1 with q | ⟨x, hx, q⟩
    · exact absurd (Or.inr (Or.inl q)) h
    · rw [q]; exact nI_pos (by omega)
  rw [if_neg h1, if_neg h2]
  by_cases e : W 22 0 = on
  · rw [if_pos e]
  · rw [if_neg e, if_neg (fun q => h (Or.inr (Or.inr ⟨e, q⟩)))]
theorem C_settleFair {Γ : GTy} {Y : HS} {f p e : Nat} (hP : FS p e Y) (K : FT) (ha : xI Y 2 1 p = K 111 (2 * f)) (hb : xI Y 2 2 p = K 111 (2 * f + 1)) {u : Nat} (hu : K 114 f = nI u) (u1 : u ≤ 1) (hO : RO Y K) (he : 1200000 ≤ e) (hB : BV K f) (hz : lowF K f = -1 → ¬ sumD K 8 = 0) : Tn Γ M_X2_settleFair [.ref p, .ref 10] (wF f p e Y K) (rt (some (.int (mScores K f u).1)) (wF f p e Y (mScores K f u).2)) := by
  refine Tn_of' rfl rfl rfl ?_
  show G Γ M_X2_settleFair (rm M_X2_settleFair) (Vn Γ M_X2_settleFair (rt (some (.int (mScores K f u).1)) (wF f p e Y (mScores K f u).2))) (0, 0) 0 [some (.ref p), some (.ref 10), none] [] (wF f p e Y K)
  refine G_aload_n (pc := 0) dX2_settleFair_0 rfl ?_
  refine K_U0r (pc := 1) (cb := 0) (k' := (0, 0)) mok_X6_droppedNumbers lk_X2_80_0 rfl (hO.w he).1 rfl rfl (aok0 rfl) dX2_settleFair_1 (C_dropC (hO.w he)) rfl ?_
  refine G_istore_n (pc := 4) dX2_settleFair_4 (by decide) ?_
  refine G_aload_n (pc := 5) dX2_settleFair_5 rfl ?_
  refine G_iconst (pc := 6) (v := nI 0) dX2_settleFair_6 (by first | rfl | decide) ?_
  refine F_putZ (pc := 7) (kk := 7) hP fl_X2_77 fw_2_7 (by decide) (Or.inl rfl) dX2_settleFair_7 ?_
  show G _ _ _ _ _ _ _ _ (wF f p e Y (u2 K 116 f (nI 0)))
  refine G_aload_n (pc := 10) dX2_settleFair_10 rfl ?_
  refine G_aload_n (pc := 11) dX2_settleFair_11 rfl ?_
  refine F_getv (pc := 12) (kk := 6) (v := nI u) hu hP fl_X2_40 (by decide) dX2_settleFair_12 ?_
  refine G_iload_n (pc := 15) dX2_settleFair_15 rfl ?_
  refine K_Vn2v (pc := 16) (k' := (0, 0)) mok_X2_addPoints lk_X2_83 hP.1 rfl rfl rfl (aok0 rfl) dX2_settleFair_16 (C_addPoints hP (u2 K 116 f (nI 0)) u1 (nI (sumD K 8))) rfl ?_
  rw [show u2 (u2 K 116 f (nI 0)) 115 (2 * f + u) (u2 K 116 f (nI 0) 115 (2 * f + u) + nI (sumD K 8)) = mSc1 K f u from u2_comm (by decide)]
  refine G_aload_n (pc := 19) dX2_settleFair_19 rfl ?_
  refine K_Vn0r (pc := 20) (k' := (0, 0)) mok_X2_lowestBall lk_X2_51 hP.1 rfl rfl rfl (aok0 rfl) dX2_settleFair_20 (C_lowestBall hP (mSc1 K f u) (show BV (mSc1 K f u) f from hB)) rfl ?_
  rw [show lowF (mSc1 K f u) f = lowF K f from lowA_congr (fun k _ => Iff.rfl)]
  refine G_iconst (pc := 23) (v := -1) dX2_settleFair_23 (by first | rfl | decide) ?_
  refine G_icmp_ne (pc := 24) (tgt := 35) dX2_settleFair_24 (by decide) (fun c24 => ?_) (fun c24 => ?_)
  · skip
    have n24 : 0 ≤ lowF K f := by
      obtain ⟨k, -, k8, -, ek⟩ := lowF_nn c24
      rw [ek]; exact nI_pos' (by omega)
    refine G_iload_n (pc := 35) dX2_settleFair_35 rfl ?_
    have g9 := sumD_le K 8 (Nat.le_refl 8)
    refine G_if_neN (pc := 36) (tgt := 55) (by omega) dX2_settleFair_36 (by decide) (fun c36 => ?_) (fun c36 => ?_)
    · skip
      refine G_iload_n (pc := 55) dX2_settleFair_55 rfl ?_
      refine G_iret (pc := 56) VZ.n dX2_settleFair_56 rfl ⟨by decide, by decide⟩ ?_
      refine ⟨rfl, ?_⟩
      show _ = wF f p e Y (if 0 ≤ lowF K f then (if sumD K 8 = 0 then u2 (mSc1 K f u) 114 f (nI (1 - u)) else mSc1 K f u) else mOver (mSc1 K f u) f u)
      first
        | exact absurd c36 (hz c24)
        | (rw [if_neg n24]; exact over_wF)
        | (rw [if_pos n24, if_neg c36])
        | (rw [if_pos n24, if_pos c36, ← q9]; rfl)
    · skip
      refine G_aload_n (pc := 39) dX2_settleFair_39 rfl ?_
      refine G_aload_n (pc := 40) dX2_settleFair_40 rfl ?_
      refine F_getv (pc := 41) (kk := 6) (v := nI u) hu hP fl_X2_40 (by decide) dX2_settleFair_41 ?_
      refine G_if_neN (pc := 44) (tgt := 51) (by omega) dX2_settleFair_44 (by decide) (fun c44 => ?_) (fun c44 => ?_)
      · skip
        have q9 : (nI 0 : Int32) = nI (1 - u) := by rw [show 1 - u = 0 by omega]
        refine G_iconst (pc := 51) (v := nI 0) dX2_settleFair_51 (by first | rfl | decide) ?_
        refine F_putZ (pc := 52) (kk := 6) hP fl_X2_40 fw_2_6 (by decide) (Or.inl rfl) dX2_settleFair_52 ?_
        refine G_iload_n (pc := 55) dX2_settleFair_55 rfl ?_
        refine G_iret (pc := 56) VZ.n dX2_settleFair_56 rfl ⟨by decide, by decide⟩ ?_
        refine ⟨rfl, ?_⟩
        show _ = wF f p e Y (if 0 ≤ lowF K f then (if sumD K 8 = 0 then u2 (mSc1 K f u) 114 f (nI (1 - u)) else mSc1 K f u) else mOver (mSc1 K f u) f u)
        first
          | exact absurd c36 (hz c24)
          | (rw [if_neg n24]; exact over_wF)
          | (rw [if_pos n24, if_neg c36])
          | (rw [if_pos n24, if_pos c36, ← q9]; rfl)
      · skip
        have q9 : (nI 1 : Int32) = nI (1 - u) := by rw [show 1 - u = 1 by omega]
        refine G_iconst (pc := 47) (v := nI 1) dX2_settleFair_47 (by first | rfl | decide) ?_
        refine G_goto (pc := 48) (tgt := 52) dX2_settleFair_48 (by decide) ?_
        refine F_putZ (pc := 52) (kk := 6) hP fl_X2_40 fw_2_6 (by decide) (Or.inr rfl) dX2_settleFair_52 ?_
        refine G_iload_n (pc := 55) dX2_settleFair_55 rfl ?_
        refine G_iret (pc := 56) VZ.n dX2_settleFair_56 rfl ⟨by decide, by decide⟩ ?_
        refine ⟨rfl, ?_⟩
        show _ = wF f p e Y (if 0 ≤ lowF K f then (if sumD K 8 = 0 then u2 (mSc1 K f u) 114 f (nI (1 - u)) else mSc1 K f u) else mOver (mSc1 K f u) f u)
        first
          | exact absurd c36 (hz c24)
          | (rw [if_neg n24]; exact over_wF)
          | (rw [if_pos n24, if_neg c36])
          | (rw [if_pos n24, if_pos c36, ← q9]; rfl)
  · skip
    have n24 : ¬ 0 ≤ lowF K f := by rw [c24]; decide
    refine G_aload_n (pc := 27) dX2_settleFair_27 rfl ?_
    refine G_aload_n (pc := 28) dX2_settleFair_28 rfl ?_
    refine K_Vn0r (pc := 29) (k' := (0, 0)) mok_X2_leader lk_X2_87 hP.1 rfl rfl rfl (aok0 rfl) dX2_settleFair_29 (C_leader hP (mSc1 K f u) ha hb hu u1) rfl ?_
    refine F_put (pc := 32) (kk := 10) hP fl_X2_23 fw_2_10 (by decide) dX2_settleFair_32 ?_
    refine G_iload_n (pc := 35) dX2_settleFair_35 rfl ?_
    have g9 := sumD_le K 8 (Nat.le_refl 8)
    refine G_if_neN (pc := 36) (tgt := 55) (by omega) dX2_settleFair_36 (by decide) (fun c36 => ?_) (fun c36 => ?_)
    · skip
      refine G_iload_n (pc := 55) dX2_settleFair_55 rfl ?_
      refine G_iret (pc := 56) VZ.n dX2_settleFair_56 rfl ⟨by decide, by decide⟩ ?_
      refine ⟨rfl, ?_⟩
      show _ = wF f p e Y (if 0 ≤ lowF K f then (if sumD K 8 = 0 then u2 (mSc1 K f u) 114 f (nI (1 - u)) else mSc1 K f u) else mOver (mSc1 K f u) f u)
      first
        | exact absurd c36 (hz c24)
        | (rw [if_neg n24]; exact over_wF)
        | (rw [if_pos n24, if_neg c36])
        | (rw [if_pos n24, if_pos c36, ← q9]; rfl)
    · skip
      refine G_aload_n (pc := 39) dX2_settleFair_39 rfl ?_
      refine G_aload_n (pc := 40) dX2_settleFair_40 rfl ?_
      refine F_getv (pc := 41) (kk := 6) (v := nI u) hu hP fl_X2_40 (by decide) dX2_settleFair_41 ?_
      refine G_if_neN (pc := 44) (tgt := 51) (by omega) dX2_settleFair_44 (by decide) (fun c44 => ?_) (fun c44 => ?_)
      · skip
        have q9 : (nI 0 : Int32) = nI (1 - u) := by rw [show 1 - u = 0 by omega]
        refine G_iconst (pc := 51) (v := nI 0) dX2_settleFair_51 (by first | rfl | decide) ?_
        refine F_putZ (pc := 52) (kk := 6) hP fl_X2_40 fw_2_6 (by decide) (Or.inl rfl) dX2_settleFair_52 ?_
        refine G_iload_n (pc := 55) dX2_settleFair_55 rfl ?_
        refine G_iret (pc := 56) VZ.n dX2_settleFair_56 rfl ⟨by decide, by decide⟩ ?_
        refine ⟨rfl, ?_⟩
        show _ = wF f p e Y (if 0 ≤ lowF K f then (if sumD K 8 = 0 then u2 (mSc1 K f u) 114 f (nI (1 - u)) else mSc1 K f u) else mOver (mSc1 K f u) f u)
        first
          | exact absurd c36 (hz c24)
          | (rw [if_neg n24]; exact over_wF)
          | (rw [if_pos n24, if_neg c36])
          | (rw [if_pos n24, if_pos c36, ← q9]; rfl)
      · skip
        have q9 : (nI 1 : Int32) = nI (1 - u) := by rw [show 1 - u = 1 by omega]
        refine G_iconst (pc := 47) (v := nI 1) dX2_settleFair_47 (by first | rfl | decide) ?_
        refine G_goto (pc := 48) (tgt := 52) dX2_settleFair_48 (by decide) ?_
        refine F_putZ (pc := 52) (kk := 6) hP fl_X2_40 fw_2_6 (by decide) (Or.inr rfl) dX2_settleFair_52 ?_
        refine G_iload_n (pc := 55) dX2_settleFair_55 rfl ?_
        refine G_iret (pc := 56) VZ.n dX2_settleFair_56 rfl ⟨by decide, by decide⟩ ?_
        refine ⟨rfl, ?_⟩
        show _ = wF f p e Y (if 0 ≤ lowF K f then (if sumD K 8 = 0 then u2 (mSc1 K f u) 114 f (nI (1 - u)) else mSc1 K f u) else mOver (mSc1 K f u) f u)
        first
          | exact absurd c36 (hz c24)
          | (rw [if_neg n24]; exact over_wF)
          | (rw [if_pos n24, if_neg c36])
          | (rw [if_pos n24, if_pos c36, ← q9]; rfl)
theorem C_settleFoul {Γ : GTy} {Y : HS} {f p e : Nat} (hP : FS p e Y) (K : FT) (on : Int32) (hG : GS Γ) {u : Nat} (hu : K 114 f = nI u) (u1 : u ≤ 1) (hO : RO Y K) (he : 1200000 ≤ e) (hE : ∀ j, j < 8 → K 118 (8 * f + j) = K 119 j) (hD : DV K) {c : Nat} (hw : fF K f 8 119 0 = nI c) (hc : c < 128) (hlow : lowF (fF2 K f u on) f = on) : Tn Γ M_X2_settleFoul [.ref p, .ref 10, .int on] (wF f p e Y K) (rt (some (.int (fSum on))) (wF f p e Y (mFouls K f u on).2)) := by
  refine Tn_of' rfl rfl rfl ?_
  show G Γ M_X2_settleFoul (rm M_X2_settleFoul) (Vn Γ M_X2_settleFoul (rt (some (.int (fSum on))) (wF f p e Y (mFouls K f u on).2))) (0, 0) 0 [some (.ref p), some (.ref 10), some (.int on), none, none] [] (wF f p e Y K)
  have rest : G Γ M_X2_settleFoul (rm M_X2_settleFoul) (Vn Γ M_X2_settleFoul (rt (some (.int (fSum on))) (wF f p e Y (mFouls K f u on).2))) (0, 0) 76 [some (.ref p), some (.ref 10), some (.int on), some (.int (fSum on)), some (.int (nI 8))] [] (wF f p e Y (fX K f u on 8)) := by
    refine G_aload_n (pc := 76) dX2_settleFoul_76 rfl ?_
    refine G_aload_n (pc := 77) dX2_settleFoul_77 rfl ?_
    refine G_iload_n (pc := 78) dX2_settleFoul_78 rfl ?_
    have v9 := FV_all hE hD (i := 8) (by omega)
    refine K_Vn1r (pc := 79) (k' := (0, 0)) mok_X2_isHidden lk_X2_100 hP.1 rfl rfl rfl (aok0 rfl) dX2_settleFoul_79 (C_isHid hP (fX K f u on 8) hG (E := fX K f u on 8) v9.1 v9.2.1 hw hc on) rfl ?_
    refine F_putZ (pc := 82) (kk := 7) hP fl_X2_77 fw_2_7 (by decide) (b2_or _) dX2_settleFoul_82 ?_
    refine G_iload_n (pc := 85) dX2_settleFoul_85 rfl ?_
    refine G_iret (pc := 86) VZ.n dX2_settleFoul_86 rfl ⟨by decide, by decide⟩ ?_
    refine ⟨rfl, ?_⟩
    show _ = wF f p e Y (u2 (fF2 K f u on) 116 f (b2 (allB (hidP (fF2 K f u on) (lowF (fF2 K f u on) f)) 8 = true)))
    rw [hlow]
    rfl
  have loop : ∀ (n9 j : Nat), j + n9 = 8 → G Γ M_X2_settleFoul (rm M_X2_settleFoul) (Vn Γ M_X2_settleFoul (rt (some (.int (fSum on))) (wF f p e Y (mFouls K f u on).2))) (0, 0) 34 [some (.ref p), some (.ref 10), some (.int on), some (.int (fSum on)), some (.int (nI j))] [] (wF f p e Y (fX K f u on j)) := by
    intro n9
    induction n9 with
    | zero =>
      intro j hj
      obtain rfl : j = 8 := by omega
      refine G_iload (pc := 34) dX2_settleFoul_34 rfl ?_
      refine G_aload_n (pc := 36) dX2_settleFoul_36 rfl ?_
      refine F_arr (pc := 37) hP fl_X2_18 dX2_settleFoul_37 ?_
      refine F_len (pc := 40) hP dX2_settleFoul_40 ?_
      refine G_icmp_geN (pc := 41) (tgt := 76) (by omega) (by omega) dX2_settleFoul_41 (by decide) (fun c41 => ?_) (fun c41 => ?_)
      · skip
        exact rest
      · omega
    | succ n9 ih =>
      intro j hj
      have hj9 : j < 8 := by omega
      refine G_iload (pc := 34) dX2_settleFoul_34 rfl ?_
      refine G_aload_n (pc := 36) dX2_settleFoul_36 rfl ?_
      refine F_arr (pc := 37) hP fl_X2_18 dX2_settleFoul_37 ?_
      refine F_len (pc := 40) hP dX2_settleFoul_40 ?_
      refine G_icmp_geN (pc := 41) (tgt := 76) (by omega) (by omega) dX2_settleFoul_41 (by decide) (fun c41 => ?_) (fun c41 => ?_)
      · omega
      · skip
        refine G_iload (pc := 44) dX2_settleFoul_44 rfl ?_
        refine G_aload_n (pc := 46) dX2_settleFoul_46 rfl ?_
        refine G_getS (pc := 47) fl_X2_70_0 (hO.w he).1 rfl (hO.w he).2.2.2.2.1 dX2_settleFoul_47 ?_
        refine G_alen (pc := 50) (v := nI 8) (hO.w he).2.2.2.2.2.1 (by decide) (congrArg nI (hO.w he).2.2.2.2.2.2.1) dX2_settleFoul_50 ?_
        refine G_icmp_geN (pc := 51) (tgt := 76) (by omega) (by omega) dX2_settleFoul_51 (by decide) (fun c51 => ?_) (fun c51 => ?_)
        · omega
        · skip
          refine G_aload_n (pc := 54) dX2_settleFoul_54 rfl ?_
          refine G_getS (pc := 55) fl_X2_70_0 (hO.w he).1 rfl (hO.w he).2.2.2.2.1 dX2_settleFoul_55 ?_
          refine G_iload (pc := 58) dX2_settleFoul_58 rfl ?_
          refine G_baldv (pc := 60) (j := j) (v := b2 (dB K j)) ((hO.w he).2.2.2.2.2.2.2.1 j hj9).2 (hO.w he).2.2.2.2.2.1 rfl (Nat.lt_of_lt_of_eq hj9 (hO.w he).2.2.2.2.2.2.1.symm) (by omega) dX2_settleFoul_60 ?_
          refine G_if_eqB (pc := 61) (tgt := 70) dX2_settleFoul_61 (by decide) (fun c61 => ?_) (fun c61 => ?_)
          · skip
            refine G_iincN (pc := 70) dX2_settleFoul_70 rfl (by decide) ?_
            refine G_goto (pc := 73) (tgt := 34) dX2_settleFoul_73 (by decide) ?_
            have h9 := ih (j + 1) (by omega)
            first
              | (rw [fX_n c61] at h9; exact h9)
              | (rw [← fX_s c61] at h9; exact h9)
          · skip
            refine G_aload_n (pc := 64) dX2_settleFoul_64 rfl ?_
            refine G_iload (pc := 65) dX2_settleFoul_65 rfl ?_
            have v9 := FV_all hE hD (i := j) (by omega)
            refine K_Vn1v (pc := 67) (k' := (0, 0)) mok_X2_comeBack lk_X2_96 hP.1 rfl rfl rfl (aok0 rfl) dX2_settleFoul_67 (C_comeBack hP (fX K f u on j) hG (E := fF K f j) v9.1 v9.2.1 hj9) rfl ?_
            refine G_iincN (pc := 70) dX2_settleFoul_70 rfl (by decide) ?_
            refine G_goto (pc := 73) (tgt := 34) dX2_settleFoul_73 (by decide) ?_
            have h9 := ih (j + 1) (by omega)
            first
              | (rw [fX_n c61] at h9; exact h9)
              | (rw [← fX_s c61] at h9; exact h9)
  refine G_iconst (pc := 0) (v := nI 4) dX2_settleFoul_0 (by first | rfl | decide) ?_
  refine G_iload_n (pc := 1) dX2_settleFoul_1 rfl ?_
  refine G_max (pc := 2) lm_X2_90 wmax ⟨by decide, Nat.le_of_ble_eq_true rfl⟩ ⟨by decide, by decide⟩ dX2_settleFoul_2 ?_
  rw [fSum_lt]
  refine G_istore_n (pc := 5) dX2_settleFoul_5 (by decide) ?_
  refine G_aload_n (pc := 6) dX2_settleFoul_6 rfl ?_
  refine G_aload_n (pc := 7) dX2_settleFoul_7 rfl ?_
  refine F_getv (pc := 8) (kk := 6) (v := nI u) hu hP fl_X2_40 (by decide) dX2_settleFoul_8 ?_
  refine G_if_neN (pc := 11) (tgt := 18) (by omega) dX2_settleFoul_11 (by decide) (fun c11 => ?_) (fun c11 => ?_)
  · skip
    have q9 : (nI 0 : Int32) = nI (1 - u) := by rw [show 1 - u = 0 by omega]
    refine G_iconst (pc := 18) (v := nI 0) dX2_settleFoul_18 (by first | rfl | decide) ?_
    refine F_putZ (pc := 19) (kk := 6) hP fl_X2_40 fw_2_6 (by decide) (Or.inl rfl) dX2_settleFoul_19 ?_
    rw [q9]
    show G _ _ _ _ _ _ _ _ (wF f p e Y (u2 K 114 f (nI (1 - u))))
    refine G_aload_n (pc := 22) dX2_settleFoul_22 rfl ?_
    refine G_aload_n (pc := 23) dX2_settleFoul_23 rfl ?_
    refine F_getv (pc := 24) (kk := 6) (v := nI (1 - u)) u2_e hP fl_X2_40 (by decide) dX2_settleFoul_24 ?_
    refine G_iload_n (pc := 27) dX2_settleFoul_27 rfl ?_
    refine K_Vn2v (pc := 28) (k' := (0, 0)) mok_X2_addPoints lk_X2_83 hP.1 rfl rfl rfl (aok0 rfl) dX2_settleFoul_28 (C_addPoints hP (u2 K 114 f (nI (1 - u))) (by omega) (fSum on)) rfl ?_
    show G _ _ _ _ _ _ _ _ (wF f p e Y (fX K f u on 0))
    refine G_iconst (pc := 31) (v := nI 0) dX2_settleFoul_31 (by first | rfl | decide) ?_
    refine G_istore (pc := 32) dX2_settleFoul_32 (by decide) ?_
    exact loop 8 0 rfl
  · skip
    have q9 : (nI 1 : Int32) = nI (1 - u) := by rw [show 1 - u = 1 by omega]
    refine G_iconst (pc := 14) (v := nI 1) dX2_settleFoul_14 (by first | rfl | decide) ?_
    refine G_goto (pc := 15) (tgt := 19) dX2_settleFoul_15 (by decide) ?_
    refine F_putZ (pc := 19) (kk := 6) hP fl_X2_40 fw_2_6 (by decide) (Or.inr rfl) dX2_settleFoul_19 ?_
    rw [q9]
    show G _ _ _ _ _ _ _ _ (wF f p e Y (u2 K 114 f (nI (1 - u))))
    refine G_aload_n (pc := 22) dX2_settleFoul_22 rfl ?_
    refine G_aload_n (pc := 23) dX2_settleFoul_23 rfl ?_
    refine F_getv (pc := 24) (kk := 6) (v := nI (1 - u)) u2_e hP fl_X2_40 (by decide) dX2_settleFoul_24 ?_
    refine G_iload_n (pc := 27) dX2_settleFoul_27 rfl ?_
    refine K_Vn2v (pc := 28) (k' := (0, 0)) mok_X2_addPoints lk_X2_83 hP.1 rfl rfl rfl (aok0 rfl) dX2_settleFoul_28 (C_addPoints hP (u2 K 114 f (nI (1 - u))) (by omega) (fSum on)) rfl ?_
    show G _ _ _ _ _ _ _ _ (wF f p e Y (fX K f u on 0))
    refine G_iconst (pc := 31) (v := nI 0) dX2_settleFoul_31 (by first | rfl | decide) ?_
    refine G_istore (pc := 32) dX2_settleFoul_32 (by decide) ?_
    exact loop 8 0 rfl
theorem C_settle {Γ : GTy} {Y : HS} {f p e : Nat} (hP : FS p e Y) (W : FT) (hG : GS Γ) (ha : xI Y 2 1 p = W 111 (2 * f)) (hb : xI Y 2 2 p = W 111 (2 * f + 1)) {u : Nat} (hu : W 114 f = nI u) (u1 : u ≤ 1) (hO : RO Y W) (he : 1200000 ≤ e) (hJ : JV W) (hKV : KV (fun k => W 118 (8 * f + k)) W) (hBV : BV W f) (hw0 : ¬ W 118 (8 * f) = -1) (hon : ¬ lowF W f = -1) : Tn Γ M_X2_settle [.ref p, .ref 10] (wF f p e Y W) (rt (some (.int (mShE W f u (lowF W f)).1)) (wF f p e Y (mShE W f u (lowF W f)).2)) := by
  refine Tn_of' rfl rfl rfl ?_
  show G Γ M_X2_settle (rm M_X2_settle) (Vn Γ M_X2_settle (rt (some (.int (mShE W f u (lowF W f)).1)) (wF f p e Y (mShE W f u (lowF W f)).2))) (0, 0) 0 [some (.ref p), some (.ref 10), none, none] [] (wF f p e Y W)
  have hKV2 : KV (fun k => W 118 (8 * f + k)) W := hKV
  have hd : dB W 0 ↔ W 119 0 = -1 := KV.d0 hKV hJ (by decide) hw0
  have hJK : JV (kF W f 8) := hJ
  have hOK : RO Y (kF W f 8) := hO.c (fun _ _ => rfl) rfl rfl
  have hEK : ∀ j, j < 8 → kF W f 8 118 (8 * f + j) = kF W f 8 119 j := fun j hj => kF_c hj
  have hDK : DV (kF W f 8) := hJ.2.1
  have hBK : BV (kF W f 8) f := fun k hk => by rw [kF_c hk]; exact (hJ.1 k hk).1
  have hz : lowF (kF W f 8) f = -1 → ¬ sumD (kF W f 8) 8 = 0 := by
    intro hq hs
    obtain ⟨k, k1, k8, kn, -⟩ := lowF_nn hon
    have hB : ¬ W 118 (8 * f + k) = -1 := fun q => kn (by rw [q]; decide)
    have hn : W 119 k = -1 := by
      apply Decidable.byContradiction
      intro q
      rcases lowA_spec (p := fun k => ¬ kF W f 8 118 (8 * f + k) < 0) (Nat.le_refl 7) with ⟨-, h2⟩ | ⟨i, -, hi, -, h4⟩
      · refine h2 k (by omega) k8 ?_
        rw [kF_c k8]
        exact hJ.1.nl k8 q
      · exact nI_nm1 (by omega) (h4.symm.trans hq)
    have := sumD_ge (F := kF W f 8) (show dB (kF W f 8) k from (hKV k k8).2 hB hn) k8
    omega
  obtain ⟨c0, hcK, hwK⟩ : ∃ c, c < 128 ∧ fF (kF W f 8) f 8 119 0 = nI c := by
    obtain ⟨-, -, g3⟩ := FV_all hEK hDK (Nat.le_refl 8)
    by_cases q : dB (kF W f 8) 0
    · exact (g3 0 (by decide)).1 ⟨by decide, q⟩
    · rw [(g3 0 (by decide)).2 (fun r => q r.2)]
      exact hJ.1.nn (by decide) (fun r => q (hd.mpr r))
  have hlow : lowF (fF2 (kF W f 8) f u (lowF W f)) f = lowF W f := (lowA_congr (fun k _ => Iff.rfl)).trans (low_fF hKV hJK hEK hBV)
  have rest : G Γ M_X2_settle (rm M_X2_settle) (Vn Γ M_X2_settle (rt (some (.int (mShE W f u (lowF W f)).1)) (wF f p e Y (mShE W f u (lowF W f)).2))) (0, 0) 43 [some (.ref p), some (.ref 10), some (.int (lowF W f)), some (.int (nI 8))] [] (wF f p e Y (kF W f 8)) := by
    refine G_aload_n (pc := 43) dX2_settle_43 rfl ?_
    refine G_aload_n (pc := 44) dX2_settle_44 rfl ?_
    refine G_iload_n (pc := 45) dX2_settle_45 rfl ?_
    refine K_Vn2r (pc := 46) (k' := (0, 0)) mok_X2_isFoul lk_X2_58 hP.1 rfl rfl rfl (aok0 rfl) dX2_settle_46 (C_isFoul hP (kF W f 8) (hO.w he) (lowF W f)) rfl ?_
    refine G_if_eqB (pc := 49) (tgt := 60) dX2_settle_49 (by decide) (fun c49 => ?_) (fun c49 => ?_)
    · skip
      have e9 := shE_fair (u := u) hJ hd c49
      refine G_aload_n (pc := 60) dX2_settle_60 rfl ?_
      refine G_aload_n (pc := 61) dX2_settle_61 rfl ?_
      refine K_Vn1r (pc := 62) (k' := (0, 0)) mok_X2_settleFair lk_X2_66 hP.1 rfl rfl rfl (aok0 rfl) dX2_settle_62 (C_settleFair hP (kF W f 8) ha hb hu u1 hOK he hBK hz) rfl ?_
      refine G_iret (pc := 65) VZ.n dX2_settle_65 rfl ⟨by decide, by decide⟩ ?_
      rw [e9]
      exact ⟨rfl, rfl⟩
    · skip
      have e9 := shE_foul (u := u) hJ hd c49
      refine G_aload_n (pc := 52) dX2_settle_52 rfl ?_
      refine G_aload_n (pc := 53) dX2_settle_53 rfl ?_
      refine G_iload_n (pc := 54) dX2_settle_54 rfl ?_
      refine K_Vn2r (pc := 55) (k' := (0, 0)) mok_X2_settleFoul lk_X2_62 hP.1 rfl rfl rfl (aok0 rfl) dX2_settle_55 (C_settleFoul hP (kF W f 8) (lowF W f) hG hu u1 hOK he hEK hDK hwK hcK hlow) rfl ?_
      refine G_ineg (pc := 58) dX2_settle_58 ?_
      refine G_iret (pc := 59) VZ.n dX2_settle_59 rfl ⟨by decide, by decide⟩ ?_
      rw [e9]
      exact ⟨rfl, rfl⟩
  have loop : ∀ (n9 j : Nat), j + n9 = 8 → G Γ M_X2_settle (rm M_X2_settle) (Vn Γ M_X2_settle (rt (some (.int (mShE W f u (lowF W f)).1)) (wF f p e Y (mShE W f u (lowF W f)).2))) (0, 0) 7 [some (.ref p), some (.ref 10), some (.int (lowF W f)), some (.int (nI j))] [] (wF f p e Y (kF W f j)) := by
    intro n9
    induction n9 with
    | zero =>
      intro j hj
      obtain rfl : j = 8 := by omega
      refine G_iload_n (pc := 7) dX2_settle_7 rfl ?_
      refine G_aload_n (pc := 8) dX2_settle_8 rfl ?_
      refine F_arr (pc := 9) hP fl_X2_18 dX2_settle_9 ?_
      refine F_len (pc := 12) hP dX2_settle_12 ?_
      refine G_icmp_geN (pc := 13) (tgt := 43) (by omega) (by omega) dX2_settle_13 (by decide) (fun c13 => ?_) (fun c13 => ?_)
      · skip
        exact rest
      · omega
    | succ n9 ih =>
      intro j hj
      have hj9 : j < 8 := by omega
      refine G_iload_n (pc := 7) dX2_settle_7 rfl ?_
      refine G_aload_n (pc := 8) dX2_settle_8 rfl ?_
      refine F_arr (pc := 9) hP fl_X2_18 dX2_settle_9 ?_
      refine F_len (pc := 12) hP dX2_settle_12 ?_
      refine G_icmp_geN (pc := 13) (tgt := 43) (by omega) (by omega) dX2_settle_13 (by decide) (fun c13 => ?_) (fun c13 => ?_)
      · omega
      · skip
        refine G_iload_n (pc := 16) dX2_settle_16 rfl ?_
        refine G_aload_n (pc := 17) dX2_settle_17 rfl ?_
        refine G_getS (pc := 18) fl_X2_55_0 (hO.w he).1 rfl (hO.w he).2.1 dX2_settle_18 ?_
        refine G_alen (pc := 21) (v := nI 8) (hO.w he).2.2.1 (by decide) (congrArg nI (hO.w he).2.2.2.1) dX2_settle_21 ?_
        refine G_icmp_geN (pc := 22) (tgt := 43) (by omega) (by omega) dX2_settle_22 (by decide) (fun c22 => ?_) (fun c22 => ?_)
        · omega
        · skip
          refine G_aload_n (pc := 25) dX2_settle_25 rfl ?_
          refine F_arr (pc := 26) hP fl_X2_18 dX2_settle_26 ?_
          refine G_iload_n (pc := 29) dX2_settle_29 rfl ?_
          refine G_aload_n (pc := 30) dX2_settle_30 rfl ?_
          refine G_getS (pc := 31) fl_X2_55_0 (hO.w he).1 rfl (hO.w he).2.1 dX2_settle_31 ?_
          refine G_iload_n (pc := 34) dX2_settle_34 rfl ?_
          refine G_ialdv (pc := 35) (j := j) (v := W 119 j) ((hO.w he).2.2.2.2.2.2.2.1 j hj9).1 (hO.w he).2.2.1 rfl (Nat.lt_of_lt_of_eq hj9 (hO.w he).2.2.2.1.symm) (by omega) dX2_settle_35 ?_
          refine F_st (pc := 36) (j := j) hP rfl hj9 dX2_settle_36 ?_
          refine G_iincN (pc := 37) dX2_settle_37 rfl (by decide) ?_
          refine G_goto (pc := 40) (tgt := 7) dX2_settle_40 (by decide) ?_
          have h9 := ih (j + 1) (by omega)
          rw [← kF_s] at h9
          exact h9
  refine G_aload_n (pc := 0) dX2_settle_0 rfl ?_
  refine K_Vn0r (pc := 1) (k' := (0, 0)) mok_X2_lowestBall lk_X2_51 hP.1 rfl rfl rfl (aok0 rfl) dX2_settle_1 (C_lowestBall hP W hBV) rfl ?_
  refine G_istore_n (pc := 4) dX2_settle_4 (by decide) ?_
  refine G_iconst (pc := 5) (v := nI 0) dX2_settle_5 (by first | rfl | decide) ?_
  refine G_istore_n (pc := 6) dX2_settle_6 (by decide) ?_
  have h9 := loop 8 0 rfl
  rw [kF_0] at h9
  exact h9
