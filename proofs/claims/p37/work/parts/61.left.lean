-- ===== what a shot leaves, of the model =====
theorem fF_118o {K : FT} {f j : Nat} (h : ¬ (8 * f ≤ j ∧ j < 8 * f + 8)) : ∀ {k : Nat}, k ≤ 8 → fF K f k 118 j = K 118 j
  | 0, _ => rfl
  | k + 1, hk => by
    show (if dB K k then cbF (fF K f k) f k else fF K f k) 118 j = K 118 j
    split
    · unfold cbF
      rw [u2_j (by omega), u2_s (by decide)]
      exact fF_118o h (by omega)
    · exact fF_118o h (by omega)
theorem kF_118o {W : FT} {f j : Nat} (h : ¬ (8 * f ≤ j ∧ j < 8 * f + 8)) : kF W f 8 118 j = W 118 j := if_neg (fun q => h q.2)
theorem cnt_one {p q : Nat → Prop} [DecidablePred p] [DecidablePred q] {f : Nat} (hp : p f) (hq : ¬ q f) : ∀ {n : Nat}, (∀ j, j < n → j ≠ f → (p j ↔ q j)) → cnt p n = cnt q n + (if f < n then 1 else 0)
  | 0, _ => rfl
  | n + 1, h => by
    show cnt p n + (if p n then 1 else 0) = cnt q n + (if q n then 1 else 0) + _
    rw [cnt_one hp hq (fun j hj => h j (by omega))]
    by_cases e : n = f
    · subst e
      rw [if_pos hp, if_neg hq, if_neg (Nat.lt_irrefl n), if_pos (Nat.lt_succ_self n)]
    · have e9 : (f < n + 1) ↔ (f < n) := by omega
      simp only [e9, h n (by omega) e]
      omega
abbrev elsewhere (f s j : Nat) : Prop := s ≠ 25 ∧ ¬ phys s ∧ ¬ (j = f ∧ (s = 113 ∨ s = 114 ∨ s = 116 ∨ s = 117)) ∧ ¬ (s = 115 ∧ (j = 2 * f ∨ j = 2 * f + 1)) ∧ ¬ (s = 118 ∧ 8 * f ≤ j ∧ j < 8 * f + 8)
theorem kF_e {V : FT} {f s j : Nat} (h : elsewhere f s j) : kF V f 8 s j = V s j := by
  by_cases e : s = 118
  · subst e
    exact kF_118o (fun q => h.2.2.2.2 ⟨rfl, q⟩)
  · exact kF_o e
theorem ph119 {s : Nat} (h : ¬ phys s) : s ≠ 119 := fun e => h (by rw [e]; decide)
theorem fF_e {V : FT} {f s j : Nat} (h : elsewhere f s j) : fF (kF V f 8) f 8 s j = V s j := by
  by_cases e : s = 118
  · subst e
    exact (fF_118o (fun q => h.2.2.2.2 ⟨rfl, q⟩) (Nat.le_refl 8)).trans (kF_e h)
  · exact (fF_o ⟨e, ph119 h.2.1⟩).trans (kF_o e)
theorem shE_facts {V : FT} {f u a b : Nat} (hJ : JV V) (hKV : KV (fun k => V 118 (8 * f + k)) V) (hBV : BV V f) (hw0 : ¬ V 118 (8 * f) = -1) (hon : ¬ lowF V f = -1) (hu : V 114 f = nI u) (u1 : u ≤ 1) (ha : V 111 (2 * f) = nI a) (a8 : a < 8) (hb : V 111 (2 * f + 1) = nI b) (b8 : b < 8) (h7 : V 117 f = -1) :
    (∃ u', u' ≤ 1 ∧ (mShE V f u (lowF V f)).2 114 f = nI u') ∧ ((mShE V f u (lowF V f)).2 116 f = 0 ∨ (mShE V f u (lowF V f)).2 116 f = 1) ∧ BV (mShE V f u (lowF V f)).2 f ∧ DB (mShE V f u (lowF V f)).2 f ∧ ¬ (mShE V f u (lowF V f)).2 118 (8 * f) = -1 ∧
    (((mShE V f u (lowF V f)).2 117 f = -1 ∧ (mShE V f u (lowF V f)).2 113 f = V 113 f ∧ ¬ lowF (mShE V f u (lowF V f)).2 f = -1 ∧ (∀ s j, elsewhere f s j → (mShE V f u (lowF V f)).2 s j = V s j)) ∨
     (∃ w, w < 8 ∧ (mShE V f u (lowF V f)).2 117 f = nI w ∧ (mShE V f u (lowF V f)).2 113 f = nI 2 ∧ (∀ s j, elsewhere f s j → s ≠ 104 → (mShE V f u (lowF V f)).2 s j = V s j) ∧ ∀ j, (mShE V f u (lowF V f)).2 104 j = if j < 4 ∧ V 104 j = nI (f + 1) then nI 0 else V 104 j)) := by
  have hd : dB V 0 ↔ V 119 0 = -1 := KV.d0 hKV hJ (by decide) hw0
  have hJK : JV (kF V f 8) := hJ
  have hEK : ∀ j, j < 8 → kF V f 8 118 (8 * f + j) = kF V f 8 119 j := fun j hj => kF_c hj
  have h119 : ∀ j, kF V f 8 119 j = V 119 j := fun j => kF_o (by decide)
  by_cases hfo : dB V 0 ∨ V 22 0 = -1 ∨ (¬ V 22 0 = lowF V f ∧ V 116 f = 0)
  · rw [shE_foul hJ hd hfo]
    obtain ⟨g1, g2, g3⟩ := FV_all hEK hJ.2.1 (Nat.le_refl 8)
    have hD : (mFouls (kF V f 8) f u (lowF V f)).2 = u2 (fF2 (kF V f 8) f u (lowF V f)) 116 f (b2 (allB (hidP (fF2 (kF V f 8) f u (lowF V f)) (lowF (fF2 (kF V f 8) f u (lowF V f)) f)) 8 = true)) := rfl
    have c118 : ∀ j, (mFouls (kF V f 8) f u (lowF V f)).2 118 j = fF (kF V f 8) f 8 118 j := fun j => by
      rw [hD, u2_s (by decide)]
      unfold fF2
      rw [u2_s (by decide), u2_s (by decide)]
    have pos : ∀ k, k < 8 → fF (kF V f 8) f 8 119 k = -1 ∨ ∃ c, c < 128 ∧ fF (kF V f 8) f 8 119 k = nI c := fun k hk => by
      by_cases q : dB (kF V f 8) k
      · exact Or.inr ((g3 k hk).1 ⟨hk, q⟩)
      · rw [(g3 k hk).2 (fun r => q r.2), h119]
        exact (hJ.1 k hk).1
    refine ⟨⟨1 - u, by omega, ?_⟩, ?_, fun k hk => ?_, fun i j hi hj => ?_, ?_, Or.inl ⟨?_, ?_, ?_, fun s j q => ?_⟩⟩
    · rw [hD, u2_s (by decide)]
      unfold fF2
      rw [u2_s (by decide), u2_e]
    · rw [hD, u2_e]
      exact b2_or _
    · rw [c118, g1 k hk]
      exact pos k hk
    · rw [c118, c118, g1 i hi, g1 j hj]
      exact g2 i j hi hj
    · have := g1 0 (by decide)
      rw [Nat.add_zero] at this
      rw [c118, this]
      by_cases q : dB (kF V f 8) 0
      · obtain ⟨c, c1, e⟩ := (g3 0 (by decide)).1 ⟨by decide, q⟩
        rw [e]
        exact nI_nm1 (by omega)
      · rw [(g3 0 (by decide)).2 (fun r => q r.2), h119]
        exact fun r => q (hd.mpr r)
    · rw [hD, u2_s (by decide)]
      unfold fF2
      rw [u2_s (by decide), u2_s (by decide), fF_o (by decide), kF_o (by decide)]
      exact h7
    · rw [hD, u2_s (by decide)]
      unfold fF2
      rw [u2_s (by decide), u2_s (by decide), fF_o (by decide), kF_o (by decide)]
    · have e9 : lowF (mFouls (kF V f 8) f u (lowF V f)).2 f = lowF (fF (kF V f 8) f 8) f := lowA_congr (fun k _ => by rw [c118])
      rw [e9, low_fF (K := kF V f 8) (B := fun k => V 118 (8 * f + k)) hKV hJK hEK hBV]
      exact hon
    · rw [hD, show u2 (fF2 (kF V f 8) f u (lowF V f)) 116 f (b2 (allB (hidP (fF2 (kF V f 8) f u (lowF V f)) (lowF (fF2 (kF V f 8) f u (lowF V f)) f)) 8 = true)) s j = fF2 (kF V f 8) f u (lowF V f) s j from if_neg (fun w => q.2.2.1 ⟨w.2, by omega⟩)]
      unfold fF2
      rw [show ∀ X : FT, ∀ v : Int32, u2 X 115 (2 * f + (1 - u)) v s j = X s j from fun X v => if_neg (fun w => q.2.2.2.1 ⟨w.1, by omega⟩), show ∀ X : FT, ∀ v : Int32, u2 X 114 f v s j = X s j from fun X v => if_neg (fun w => q.2.2.1 ⟨w.2, by omega⟩)]
      exact fF_e q
  · rw [shE_fair hJ hd hfo]
    have hD : (mScores (kF V f 8) f u).2 = if 0 ≤ lowF (kF V f 8) f then (if sumD (kF V f 8) 8 = 0 then u2 (mSc1 (kF V f 8) f u) 114 f (nI (1 - u)) else mSc1 (kF V f 8) f u) else mOver (mSc1 (kF V f 8) f u) f u := rfl
    have x118 : ∀ j, mSc1 (kF V f 8) f u 118 j = kF V f 8 118 j := fun j => by
      unfold mSc1
      rw [u2_s (by decide), u2_s (by decide)]
    have xo : ∀ s j, s ≠ 115 → s ≠ 116 → mSc1 (kF V f 8) f u s j = kF V f 8 s j := fun s j q1 q2 => by
      unfold mSc1
      rw [u2_s q2, u2_s q1]
    have xe : ∀ s j, elsewhere f s j → mSc1 (kF V f 8) f u s j = V s j := fun s j q => by
      unfold mSc1
      rw [show ∀ X : FT, ∀ v : Int32, u2 X 116 f v s j = X s j from fun X v => if_neg (fun w => q.2.2.1 ⟨w.2, by omega⟩), show ∀ X : FT, ∀ v : Int32, u2 X 115 (2 * f + u) v s j = X s j from fun X v => if_neg (fun w => q.2.2.2.1 ⟨w.1, by omega⟩)]
      exact kF_e q
    have x116 : mSc1 (kF V f 8) f u 116 f = nI 0 := u2_e
    have d118 : ∀ j, (mScores (kF V f 8) f u).2 118 j = kF V f 8 118 j := fun j => by
      rw [hD]
      split
      · split
        · rw [u2_s (by decide)]; exact x118 j
        · exact x118 j
      · unfold mOver
        rw [hF_o (Or.inl (by decide)), u2_s (by decide), u2_s (by decide)]; exact x118 j
    have d116 : (mScores (kF V f 8) f u).2 116 f = nI 0 := by
      rw [hD]
      split
      · split
        · rw [u2_s (by decide)]; exact x116
        · exact x116
      · unfold mOver
        rw [hF_o (Or.inl (by decide)), u2_s (by decide), u2_s (by decide)]; exact x116
    have hw : ¬ V 119 0 = -1 := fun q => hfo (Or.inl (hd.mpr q))
    refine ⟨?_, Or.inl d116, fun k hk => ?_, fun i j hi hj => ?_, ?_, ?_⟩
    · rw [hD]
      split
      · split
        · exact ⟨1 - u, by omega, u2_e⟩
        · exact ⟨u, u1, (xo _ _ (by decide) (by decide)).trans ((kF_o (by decide)).trans hu)⟩
      · refine ⟨u, u1, ?_⟩
        unfold mOver
        rw [hF_o (Or.inl (by decide)), u2_s (by decide), u2_s (by decide)]
        exact (xo _ _ (by decide) (by decide)).trans ((kF_o (by decide)).trans hu)
    · rw [d118, kF_c hk]
      exact (hJ.1 k hk).1
    · rw [d118, d118, kF_c hi, kF_c hj]
      exact hJ.2.1 i j hi hj
    · have := kF_c (W := V) (f := f) (j := 0) (by decide)
      rw [Nat.add_zero] at this
      rw [d118, this]
      exact hw
    · by_cases hl : 0 ≤ lowF (kF V f 8) f
      · have hD2 : (mScores (kF V f 8) f u).2 = if sumD (kF V f 8) 8 = 0 then u2 (mSc1 (kF V f 8) f u) 114 f (nI (1 - u)) else mSc1 (kF V f 8) f u := if_pos hl
        refine Or.inl ⟨?_, ?_, ?_, fun s j q => ?_⟩
        · rw [hD2]
          split
          · rw [u2_s (by decide)]
            exact (xo _ _ (by decide) (by decide)).trans ((kF_o (by decide)).trans h7)
          · exact (xo _ _ (by decide) (by decide)).trans ((kF_o (by decide)).trans h7)
        · rw [hD2]
          split
          · rw [u2_s (by decide)]
            exact (xo _ _ (by decide) (by decide)).trans (kF_o (by decide))
          · exact (xo _ _ (by decide) (by decide)).trans (kF_o (by decide))
        · have e9 : lowF (mScores (kF V f 8) f u).2 f = lowF (kF V f 8) f := lowA_congr (fun k _ => by rw [d118])
          rw [e9]
          exact fun q => absurd hl (by rw [q]; decide)
        · rw [hD2]
          split
          · rw [show ∀ X : FT, ∀ v : Int32, u2 X 114 f v s j = X s j from fun X v => if_neg (fun w => q.2.2.1 ⟨w.2, by omega⟩)]
            exact xe s j q
          · exact xe s j q
      · have hD2 : (mScores (kF V f 8) f u).2 = mOver (mSc1 (kF V f 8) f u) f u := if_neg hl
        have w7 : ∃ w, w < 8 ∧ mSc1 (kF V f 8) f u 111 (2 * f + overI (mSc1 (kF V f 8) f u) f u) = nI w := by
          have ho : overI (mSc1 (kF V f 8) f u) f u = 0 ∨ overI (mSc1 (kF V f 8) f u) f u = 1 := by
            unfold overI
            split
            · split
              · omega
              · exact Or.inr rfl
            · exact Or.inl rfl
          rcases ho with e | e
          · rw [e]
            exact ⟨a, a8, (xo _ _ (by decide) (by decide)).trans ((kF_o (by decide)).trans ha)⟩
          · rw [e]
            exact ⟨b, b8, (xo _ _ (by decide) (by decide)).trans ((kF_o (by decide)).trans hb)⟩
        obtain ⟨w, w8, ew⟩ := w7
        refine Or.inr ⟨w, w8, ?_, ?_, fun s j q q4 => ?_, fun j => ?_⟩
        · rw [hD2]
          unfold mOver
          rw [hF_o (Or.inl (by decide)), u2_s (by decide), u2_e]
          exact ew
        · rw [hD2]
          unfold mOver
          rw [hF_o (Or.inl (by decide)), u2_e]
        · rw [hD2]
          unfold mOver
          rw [hF_o (Or.inl q4), show ∀ X : FT, ∀ v : Int32, u2 X 113 f v s j = X s j from fun X v => if_neg (fun w => q.2.2.1 ⟨w.2, by omega⟩), show ∀ X : FT, ∀ v : Int32, u2 X 117 f v s j = X s j from fun X v => if_neg (fun w => q.2.2.1 ⟨w.2, by omega⟩)]
          exact xe s j q
        · rw [hD2]
          unfold mOver
          have e4 : u2 (u2 (mSc1 (kF V f 8) f u) 117 f (mSc1 (kF V f 8) f u 111 (2 * f + overI (mSc1 (kF V f 8) f u) f u))) 113 f (nI 2) 104 j = V 104 j := by
            rw [u2_s (by decide), u2_s (by decide)]
            exact (xo _ _ (by decide) (by decide)).trans (kF_o (by decide))
          unfold hF
          have e9 : (104 = 104 ∧ j < 4 ∧ u2 (u2 (mSc1 (kF V f 8) f u) 117 f (mSc1 (kF V f 8) f u 111 (2 * f + overI (mSc1 (kF V f 8) f u) f u))) 113 f (nI 2) 104 j = nI (f + 1)) ↔ (j < 4 ∧ V 104 j = nI (f + 1)) := by
            rw [e4]
            exact ⟨fun y => y.2, fun y => ⟨rfl, y⟩⟩
          by_cases y : j < 4 ∧ V 104 j = nI (f + 1)
          · rw [if_pos (e9.mpr y), if_pos y]
          · rw [if_neg (fun q => y (e9.mp q)), if_neg y, e4]
theorem wear_lt (x : Int32) : (if x < nI 100 then x else nI 100) = (if x ≤ nI 100 then x else nI 100) := by
  by_cases e : x < nI 100
  · rw [if_pos e, if_pos (Int32.le_of_lt e)]
  · rw [if_neg e]
    by_cases g : x ≤ nI 100
    · rw [if_pos g]
      exact (Int32.le_antisymm g (Int32.not_lt.mp e)).symm
    · rw [if_neg g]
theorem wearF_n {w m : Nat} (hw : w ≤ 100) (hm : m ≤ 40) : ∃ k, k ≤ 100 ∧ wearF (nI w) (nI m) = nI k := by
  unfold wearF
  rw [show (nI m / nI 4 : Int32) = nI (m / 4) from pk_div (by omega) (by decide) (by decide), nI_add, nI_add]
  by_cases e : w + m / 4 + 1 ≤ 100
  · rw [if_pos (nI_le e (by decide))]
    exact ⟨_, e, rfl⟩
  · rw [if_neg (fun q => e ((nI_leI (by omega) (by decide)).mp q))]
    exact ⟨100, Nat.le_refl _, rfl⟩
theorem C_wearOff {Γ : GTy} {Z : HS} {q : Nat} {w : Int32} (hk : xK Z q = 1) (hw : xI Z 1 0 q = w) (p : Int32) : Tn Γ M_X1_wearOff [.ref q, .int p] Z (rt none (sI Z 1 0 q (wearF w p))) := by
  refine Tn_of' rfl rfl rfl ?_
  show G Γ M_X1_wearOff (rm M_X1_wearOff) (Vn Γ M_X1_wearOff (rt none (sI Z 1 0 q (wearF w p)))) (0, 0) 0 [some (.ref q), some (.int p)] [] Z
  refine G_aload_n (pc := 0) dX1_wearOff_0 rfl ?_
  refine G_bipush (pc := 1) (v := nI 100) dX1_wearOff_1 (by first | rfl | decide) ?_
  refine G_aload_n (pc := 3) dX1_wearOff_3 rfl ?_
  refine G_getIv (pc := 4) (c := 1) (i := 0) (v := w) hw fl_X1_21 hk rfl dX1_wearOff_4 ?_
  refine G_iload_n (pc := 7) dX1_wearOff_7 rfl ?_
  refine G_iconst (pc := 8) (v := nI 4) dX1_wearOff_8 (by first | rfl | decide) ?_
  refine G_idiv (pc := 9) dX1_wearOff_9 (by decide) ?_
  refine G_iadd (pc := 10) dX1_wearOff_10 ?_
  refine G_iconst (pc := 11) (v := nI 1) dX1_wearOff_11 (by first | rfl | decide) ?_
  refine G_iadd (pc := 12) dX1_wearOff_12 ?_
  refine G_min (pc := 13) lm_X1_24 wmin ⟨by decide, Nat.le_of_ble_eq_true rfl⟩ ⟨by decide, by decide⟩ dX1_wearOff_13 ?_
  rw [wear_lt]
  refine G_putI (pc := 16) fl_X1_21 fw_1_0 hk rfl dX1_wearOff_16 ?_
  refine G_vret (pc := 19) VZ.n dX1_wearOff_19 rfl ⟨by decide, by decide⟩ ?_
  exact ⟨rfl, rfl⟩
theorem C_cwin1 {Γ : GTy} {Z : HS} (hH : SH Z) {p w q : Nat} {lz : Int32} (hk : xK Z p = 2) (hv : xI Z 2 10 p = nI w) (w8 : w < 8) (hl : xI Z 2 3 p = lz) (h1 : ¬ lz = 0) (hx : xA Z 1800007 w = nI q) : Tn Γ M_X9_countWin [.ref 800000, .ref p] Z (rt none (sA Z 1800007 w (nI (q + 1)))) := by
  refine Tn_of' rfl rfl rfl ?_
  show G Γ M_X9_countWin (rm M_X9_countWin) (Vn Γ M_X9_countWin (rt none (sA Z 1800007 w (nI (q + 1))))) (0, 0) 0 [some (.ref 800000), some (.ref p), none] [] Z
  refine G_aload_n (pc := 0) dX9_countWin_0 rfl ?_
  refine G_getIv (pc := 1) (c := 2) (i := 10) (v := nI w) hv fl_X9_285 hk rfl dX9_countWin_1 ?_
  refine G_istore_n (pc := 4) dX9_countWin_4 (by decide) ?_
  refine G_aload_n (pc := 5) dX9_countWin_5 rfl ?_
  refine G_getIv (pc := 6) (c := 2) (i := 3) (v := lz) hl fl_X9_173 hk rfl dX9_countWin_6 ?_
  refine G_if_eq (pc := 9) (tgt := 35) dX9_countWin_9 (by decide) (fun c9 => ?_) (fun c9 => ?_)
  · exact absurd c9 h1
  · skip
    refine G_iload_n (pc := 12) dX9_countWin_12 rfl ?_
    refine G_if_ltN (pc := 13) (tgt := 35) (by omega) dX9_countWin_13 (by decide) (fun c13 => ?_) (fun c13 => ?_)
    · omega
    · skip
      refine G_iload_n (pc := 16) dX9_countWin_16 rfl ?_
      refine G_aload_n (pc := 17) dX9_countWin_17 rfl ?_
      refine G_getS (pc := 18) fl_X9_49 (sh_k hH) rfl (sh_r7 hH) dX9_countWin_18 ?_
      refine G_alen (pc := 21) (v := nI 8) (sh_c7 hH) (by decide) (congrArg nI (sh_n7 hH)) dX9_countWin_21 ?_
      refine G_icmp_geN (pc := 22) (tgt := 35) (by omega) (by omega) dX9_countWin_22 (by decide) (fun c22 => ?_) (fun c22 => ?_)
      · omega
      · skip
        refine G_aload_n (pc := 25) dX9_countWin_25 rfl ?_
        refine G_getS (pc := 26) fl_X9_49 (sh_k hH) rfl (sh_r7 hH) dX9_countWin_26 ?_
        refine G_iload_n (pc := 29) dX9_countWin_29 rfl ?_
        refine G_dup2 (pc := 30) dX9_countWin_30 rfl rfl ?_
        refine G_ialdv (pc := 31) (j := w) (v := nI q) hx (sh_c7 hH) rfl (Nat.lt_of_lt_of_eq w8 (sh_n7 hH).symm) (by omega) dX9_countWin_31 ?_
        refine G_iconst (pc := 32) (v := nI 1) dX9_countWin_32 (by first | rfl | decide) ?_
        refine G_iaddN (pc := 33) dX9_countWin_33 ?_
        refine G_iast (pc := 34) (j := w) (sh_c7 hH) rfl (Nat.lt_of_lt_of_eq w8 (sh_n7 hH).symm) (by omega) dX9_countWin_34 ?_
        refine G_vret (pc := 35) VZ.n dX9_countWin_35 rfl ⟨by decide, by decide⟩ ?_
        exact ⟨rfl, rfl⟩
theorem C_cwin0 {Γ : GTy} {Z : HS} (hH : SH Z) {p w : Nat} {lz : Int32} (hk : xK Z p = 2) (hv : xI Z 2 10 p = nI w) (w8 : w < 8) (hl : xI Z 2 3 p = lz) (h1 : lz = 0) : Tn Γ M_X9_countWin [.ref 800000, .ref p] Z (rt none Z) := by
  refine Tn_of' rfl rfl rfl ?_
  show G Γ M_X9_countWin (rm M_X9_countWin) (Vn Γ M_X9_countWin (rt none Z)) (0, 0) 0 [some (.ref 800000), some (.ref p), none] [] Z
  refine G_aload_n (pc := 0) dX9_countWin_0 rfl ?_
  refine G_getIv (pc := 1) (c := 2) (i := 10) (v := nI w) hv fl_X9_285 hk rfl dX9_countWin_1 ?_
  refine G_istore_n (pc := 4) dX9_countWin_4 (by decide) ?_
  refine G_aload_n (pc := 5) dX9_countWin_5 rfl ?_
  refine G_getIv (pc := 6) (c := 2) (i := 3) (v := lz) hl fl_X9_173 hk rfl dX9_countWin_6 ?_
  refine G_if_eq (pc := 9) (tgt := 35) dX9_countWin_9 (by decide) (fun c9 => ?_) (fun c9 => ?_)
  · skip
    refine G_vret (pc := 35) VZ.n dX9_countWin_35 rfl ⟨by decide, by decide⟩ ?_
    exact ⟨rfl, rfl⟩
  · exact absurd h1 c9
theorem C_rawN {Γ : GTy} {Z : HS} (hH : SH Z) {t p : Nat} (hk : xK Z t = 7) (hf : xR Z 7 3 t = some p) (hkp : xK Z p = 2) (hs : xR Z 7 4 t = none) : Tn Γ M_X9_takeFrameOff [.ref 800000, .ref t] Z (rt none (sR (sR Z 2 5 p none) 7 3 t none)) := by
  refine Tn_of' rfl rfl rfl ?_
  show G Γ M_X9_takeFrameOff (rm M_X9_takeFrameOff) (Vn Γ M_X9_takeFrameOff (rt none (sR (sR Z 2 5 p none) 7 3 t none))) (0, 0) 0 [some (.ref 800000), some (.ref t)] [] Z
  refine G_aload_n (pc := 0) dX9_takeFrameOff_0 rfl ?_
  refine G_ifnull_r (pc := 1) dX9_takeFrameOff_1 ?_
  refine G_aload_n (pc := 4) dX9_takeFrameOff_4 rfl ?_
  refine G_getS (pc := 5) fl_X9_257 hk rfl hf dX9_takeFrameOff_5 ?_
  refine G_ifnonnull_r (pc := 8) (tgt := 12) dX9_takeFrameOff_8 (by decide) ?_
  refine G_aload_n (pc := 12) dX9_takeFrameOff_12 rfl ?_
  refine G_getS (pc := 13) fl_X9_257 hk rfl hf dX9_takeFrameOff_13 ?_
  refine G_null (pc := 16) dX9_takeFrameOff_16 ?_
  refine G_putR (pc := 17) (o := none) rfl (fun _ h => nomatch h) fl_X9_185 fw_2_5 hkp rfl dX9_takeFrameOff_17 ?_
  refine G_aload_n (pc := 20) dX9_takeFrameOff_20 rfl ?_
  refine G_null (pc := 21) dX9_takeFrameOff_21 ?_
  refine G_putR (pc := 22) (o := none) rfl (fun _ h => nomatch h) fl_X9_257 fw_7_3 hk rfl dX9_takeFrameOff_22 ?_
  refine G_aload_n (pc := 25) dX9_takeFrameOff_25 rfl ?_
  refine G_getN (pc := 26) fl_X9_343 hk rfl ((xR_sR (fun w => absurd w.2.1 (by decide))).trans ((xR_sR (fun w => absurd w.1 (by decide))).trans hs)) dX9_takeFrameOff_26 ?_
  refine G_ifnull_n (pc := 29) (tgt := 48) dX9_takeFrameOff_29 (by decide) ?_
  refine G_vret (pc := 48) VZ.n dX9_takeFrameOff_48 rfl ⟨by decide, by decide⟩ ?_
  exact ⟨rfl, rfl⟩
theorem C_rawL {Γ : GTy} {Z : HS} (hH : SH Z) {t p : Nat} (hk : xK Z t = 7) (hf : xR Z 7 3 t = some p) (hkp : xK Z p = 2) {s : Nat} {m : Int32} (hs : xR Z 7 4 t = some s) (hks : xK Z s = 6) (hm : xI Z 8 15 800000 = m) : Tn Γ M_X9_takeFrameOff [.ref 800000, .ref t] Z (rt none (sR (sI (sR (sR Z 2 5 p none) 7 3 t none) 6 2 s m) 7 4 t none)) := by
  refine Tn_of' rfl rfl rfl ?_
  show G Γ M_X9_takeFrameOff (rm M_X9_takeFrameOff) (Vn Γ M_X9_takeFrameOff (rt none (sR (sI (sR (sR Z 2 5 p none) 7 3 t none) 6 2 s m) 7 4 t none))) (0, 0) 0 [some (.ref 800000), some (.ref t)] [] Z
  refine G_aload_n (pc := 0) dX9_takeFrameOff_0 rfl ?_
  refine G_ifnull_r (pc := 1) dX9_takeFrameOff_1 ?_
  refine G_aload_n (pc := 4) dX9_takeFrameOff_4 rfl ?_
  refine G_getS (pc := 5) fl_X9_257 hk rfl hf dX9_takeFrameOff_5 ?_
  refine G_ifnonnull_r (pc := 8) (tgt := 12) dX9_takeFrameOff_8 (by decide) ?_
  refine G_aload_n (pc := 12) dX9_takeFrameOff_12 rfl ?_
  refine G_getS (pc := 13) fl_X9_257 hk rfl hf dX9_takeFrameOff_13 ?_
  refine G_null (pc := 16) dX9_takeFrameOff_16 ?_
  refine G_putR (pc := 17) (o := none) rfl (fun _ h => nomatch h) fl_X9_185 fw_2_5 hkp rfl dX9_takeFrameOff_17 ?_
  refine G_aload_n (pc := 20) dX9_takeFrameOff_20 rfl ?_
  refine G_null (pc := 21) dX9_takeFrameOff_21 ?_
  refine G_putR (pc := 22) (o := none) rfl (fun _ h => nomatch h) fl_X9_257 fw_7_3 hk rfl dX9_takeFrameOff_22 ?_
  refine G_aload_n (pc := 25) dX9_takeFrameOff_25 rfl ?_
  refine G_getS (pc := 26) fl_X9_343 hk rfl ((xR_sR (fun w => absurd w.2.1 (by decide))).trans ((xR_sR (fun w => absurd w.1 (by decide))).trans hs)) dX9_takeFrameOff_26 ?_
  refine G_ifnull_r (pc := 29) dX9_takeFrameOff_29 ?_
  refine G_aload_n (pc := 32) dX9_takeFrameOff_32 rfl ?_
  refine G_getS (pc := 33) fl_X9_343 hk rfl ((xR_sR (fun w => absurd w.2.1 (by decide))).trans ((xR_sR (fun w => absurd w.1 (by decide))).trans hs)) dX9_takeFrameOff_33 ?_
  refine G_aload_n (pc := 36) dX9_takeFrameOff_36 rfl ?_
  refine G_getIv (pc := 37) (c := 8) (i := 15) (v := m) hm fl_X9_102 (sh_k hH) rfl dX9_takeFrameOff_37 ?_
  refine K_Vn1v (pc := 40) (k' := (0, 0)) mok_X7_close lk_X9_347 hks rfl rfl rfl (aok0 rfl) dX9_takeFrameOff_40 (C_sclose (Z := (sR (sR Z 2 5 p none) 7 3 t none)) (by rw [xK_sR', xK_sR']; exact hks) m) rfl ?_
  refine G_aload_n (pc := 43) dX9_takeFrameOff_43 rfl ?_
  refine G_null (pc := 44) dX9_takeFrameOff_44 ?_
  refine G_putR (pc := 45) (o := none) rfl (fun _ h => nomatch h) fl_X9_343 fw_7_4 hk rfl dX9_takeFrameOff_45 ?_
  refine G_vret (pc := 48) VZ.n dX9_takeFrameOff_48 rfl ⟨by decide, by decide⟩ ?_
  exact ⟨rfl, rfl⟩
