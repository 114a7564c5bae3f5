-- ===== what the drawn hall's numbers keep =====
/-- of a hall whose numbers aren't known: price, minute, frames, tip of cue 0 -/
def KP (F F' : FT) : Prop := F' 0 0 = F 0 0 ∧ F' 1 0 = F 1 0 ∧ F' 10 0 = F 10 0 ∧ F' 108 0 = F 108 0
theorem KP.refl (F : FT) : KP F F := ⟨rfl, rfl, rfl, rfl⟩
-- contacts are counted
theorem cn_rolls {F : FT} {b c d m : Nat} (h : F 23 0 = nI m) : ∃ m', m' ≤ m + 1 ∧ mRolls F b c d 23 0 = nI m' := by
  unfold mRolls
  split
  · split
    · refine ⟨m, by omega, ?_⟩
      unfold mMove
      split
      · rw [u2_s (by decide), u2_s (by decide), u2_s (by decide), u2_s (by decide)]; exact h
      · rw [u2_s (by decide), u2_s (by decide)]; exact h
    · refine ⟨m + 1, by omega, ?_⟩
      unfold mMeet
      rw [u2_s (by decide), u2_e, h]
      exact nI_add m 1
  · refine ⟨m, by omega, ?_⟩
    unfold mOut
    rw [u2_s (by decide), u2_s (by decide), u2_s (by decide)]; exact h
theorem cn_step {F : FT} {k m : Nat} (h : F 23 0 = nI m) : ∃ m', m' ≤ m + 1 ∧ mStep F k 23 0 = nI m' := by
  unfold mStep
  split
  · exact ⟨m, by omega, h⟩
  · split
    · exact ⟨m, by omega, h⟩
    · exact cn_rolls h
theorem cn_tick {F : FT} {m : Nat} (h : F 23 0 = nI m) : ∀ i : Nat, ∃ m', m' ≤ m + i ∧ mTick F i 23 0 = nI m'
  | 0 => ⟨m, by omega, h⟩
  | i + 1 => by
    obtain ⟨m1, h1, h2⟩ := cn_tick h i
    obtain ⟨m2, h3, h4⟩ := cn_step (k := i) h2
    exact ⟨m2, by omega, h4⟩
theorem cn_run : ∀ (n : Nat) {F : FT} {m : Nat}, F 23 0 = nI m → ∃ m', m' ≤ m + 8 * n ∧ mRun F n 23 0 = nI m'
  | 0, F, m, h => ⟨m, by omega, h⟩
  | n + 1, F, m, h => by
    show ∃ m', m' ≤ m + 8 * (n + 1) ∧ (if anyB (isR F) 8 = true then mRun (mTick F 8) n else F) 23 0 = nI m'
    split
    · obtain ⟨m1, h1, h2⟩ := cn_tick h 8
      obtain ⟨m2, h3, h4⟩ := cn_run n h2
      exact ⟨m2, by omega, h4⟩
    · exact ⟨m, by omega, h⟩
theorem cn_shot {F : FT} {f d : Nat} {p : Int32} : ∃ m, m ≤ 2400 ∧ mShot F f d p 23 0 = nI m := by
  have h : mS0 F f d p 23 0 = nI 0 := by
    unfold mS0
    rw [u2_s (by decide), u2_e]
  obtain ⟨m, h1, h2⟩ := cn_run 300 h
  exact ⟨m, by omega, h2⟩
-- a shot
theorem nn_ge {m : Nat} (hm : m < 2 ^ 31) {z : Int32} (hz : z < 0) : ¬ nI m < z := fun q => nI_pos hm (Int32.lt_trans q hz)
theorem sumD_l2 (F : FT) : ∀ n : Nat, sumD F n ≤ n * n
  | 0 => Nat.le_refl 0
  | n + 1 => by
    have h := sumD_l2 F n
    have e : (n + 1) * (n + 1) = n * n + 2 * n + 1 := by rw [Nat.add_mul, Nat.mul_add]; omega
    show sumD F n + (if dB F n then n else 0) ≤ _
    split <;> omega
theorem shE_v {W : FT} {f u : Nat} {on : Int32} (h : on = -1 ∨ ∃ k, k < 8 ∧ on = nI k) : ¬ (mShE W f u on).1 < -7 := by
  have hf : ¬ -fSum on < -7 := by
    rcases h with rfl | ⟨k, hk, rfl⟩
    · decide
    · have q : ∀ k, k < 8 → ¬ -fSum (nI k) < -7 := by decide
      exact q k hk
  have hs : ∀ G : FT, ¬ nI (sumD G 8) < -7 := fun G => nn_ge (by have := sumD_l2 G 8; omega) (by decide)
  unfold mShE mFouls mScores
  split
  · exact hf
  · split
    · exact hf
    · split
      · exact hs _
      · split
        · exact hf
        · exact hs _
theorem shE_o {W : FT} {f u s j : Nat} {on : Int32} (h : s = 0 ∨ s = 1 ∨ s = 10 ∨ s = 108) : (mShE W f u on).2 s j = W s j := by
  have a1 : s ≠ 118 ∧ s ≠ 119 := by omega
  have hf : (mFouls (kF W f 8) f u on).2 s j = W s j := by
    show u2 (fF2 (kF W f 8) f u on) 116 f _ s j = _
    rw [u2_s (by omega)]
    unfold fF2
    rw [u2_s (by omega), u2_s (by omega), fF_o a1, kF_o a1.1]
  have hs : (mScores (kF W f 8) f u).2 s j = W s j := by
    have e : mSc1 (kF W f 8) f u s j = W s j := by
      unfold mSc1
      rw [u2_s (by omega), u2_s (by omega), kF_o a1.1]
    show (if _ then (if _ then u2 (mSc1 (kF W f 8) f u) 114 f (nI (1 - u)) else mSc1 (kF W f 8) f u) else mOver (mSc1 (kF W f 8) f u) f u) s j = _
    split
    · split
      · rw [u2_s (by omega)]; exact e
      · exact e
    · unfold mOver
      rw [hF_o (Or.inl (by omega)), u2_s (by omega), u2_s (by omega)]
      exact e
  unfold mShE
  split
  · exact hf
  · split
    · exact hf
    · split
      · exact hs
      · split
        · exact hf
        · exact hs
theorem thr2_o {F : FT} {a b : Int32} {s j : Nat} (h : s ≠ 25) : thr (thr F a) b s j = F s j := (u2_s h).trans (u2_s h)
theorem wearF_p {w m : Nat} (hw : w ≤ 100) (hm : m ≤ 40) : 0 < wearF (nI w) (nI m) := by
  unfold wearF
  rw [pk_div (by omega) (by decide) (by decide), nI_add, show nI (w + m / 4) + nI 1 = nI (w + m / 4 + 1) from nI_add _ 1]
  split
  · exact nI_lt (a := 0) (by omega) (by omega)
  · decide
/-- behind a shot: the tip of cue 0 -/
theorem shW_108 {F : FT} {f d c w0 m : Nat} (hw : ∀ v, v < 6 → ∃ w, w ≤ 100 ∧ F 108 v = nI w) (hm : m ≤ 40) (h : 0 < F 108 0 ∨ lastW (fun k => F 107 k = nI (c + 1)) 6 = nI 0) : 0 < shW F f d c (nI m) 108 0 := by
  have e0 : ∀ p : Int32, mShot (thr (thr F (nI 0)) (nI 0)) f d p 108 0 = F 108 0 := fun p => (mShot_o (by decide)).trans (thr2_o (by decide))
  unfold shW
  split
  · next q =>
    rw [e0]
    rcases h with h | h
    · exact h
    · exact absurd (h.symm.trans q) (by decide)
  · next q =>
    obtain ⟨v, hv, he, e9⟩ := lastW_yes q
    rw [e9, nI_clamp (by omega)]
    by_cases hv0 : v = 0
    · subst hv0
      obtain ⟨w, w1, w2⟩ := hw 0 (by decide)
      rw [u2_e, w2]
      exact wearF_p w1 hm
    · have e1 : ∀ G : FT, ∀ x : Int32, u2 G 108 v x 108 0 = G 108 0 := fun G x => if_neg (fun t => hv0 t.2.symm)
      rw [e1, e0]
      rcases h with h | h
      · exact h
      · exact absurd ((nI_eq (by omega) (by decide)).mp (e9.symm.trans h)) hv0
theorem shW_o {F : FT} {f d c s j : Nat} {z : Int32} (h : s = 0 ∨ s = 1 ∨ s = 10) : shW F f d c z s j = F s j := by
  have hp : ¬ phys s := by unfold phys; omega
  unfold shW
  split
  · exact (mShot_o hp).trans (thr2_o (by omega))
  · rw [u2_s (by omega)]; exact (mShot_o hp).trans (thr2_o (by omega))
-- rent, end, pass
theorem rent_KP {F : FT} {t c : Nat} : KP F (mRent F t c).2 ∧ ∃ m, m < 2 ^ 31 ∧ (mRent F t c).1 = nI m := by
  have k2 : ∀ v w : Int32, KP F (thr (thr F v) w) := fun v w => ⟨thr2_o (by decide), thr2_o (by decide), thr2_o (by decide), thr2_o (by decide)⟩
  have cl : ∀ (p : Nat → Prop) [DecidablePred p], cnt p 4 < 2 ^ 31 := fun p _ => by
    have h : ∀ n, cnt p n ≤ n := fun n => by
      induction n with
      | zero => exact Nat.le_refl 0
      | succ n ih =>
        show cnt p n + (if p n then 1 else 0) ≤ n + 1
        split <;> omega
    have := h 4
    omega
  have key : ∀ s j : Nat, s ≠ 25 → s ≠ 103 → s ≠ 105 → u2 (u2 (thr (thr F (nI 0)) (nI 0)) 103 t (nI (c + 1))) 105 t (nI 0) s j = F s j := fun s j h1 h2 h3 => by rw [u2_s h3, u2_s h2, thr2_o h1]
  unfold mRent
  split
  · split
    · exact ⟨k2 _ _, 0, by decide, rfl⟩
    · split
      · exact ⟨⟨key 0 0 (by decide) (by decide) (by decide), key 1 0 (by decide) (by decide) (by decide), key 10 0 (by decide) (by decide) (by decide), key 108 0 (by decide) (by decide) (by decide)⟩, _, cl _, rfl⟩
      · exact ⟨k2 _ _, 0, by decide, rfl⟩
  · exact ⟨k2 _ _, 0, by decide, rfl⟩
theorem end_KP {F : FT} {t r h a p : Nat} (ha : F 105 t = nI a) (a1 : a ≤ 10000) (hp : F 1 0 = nI p) (p1 : p ≤ 50) : KP F (mEnd F t r h).2 ∧ ∃ m, m < 2 ^ 31 ∧ (mEnd F t r h).1 = nI m := by
  have k2 : ∀ v w : Int32, KP F (thr (thr F v) w) := fun v w => ⟨thr2_o (by decide), thr2_o (by decide), thr2_o (by decide), thr2_o (by decide)⟩
  unfold mEnd
  split
  · exact ⟨k2 _ _, 0, by decide, rfl⟩
  · unfold mEnds
    split
    · exact ⟨k2 _ _, 0, by decide, rfl⟩
    · have ev : thr (thr F (nI 0)) (nI 0) 1 0 * ((thr (thr F (nI 0)) (nI 0) 105 t + nI 9) / nI 10) = nI (p * ((a + 9) / 10)) := by
        rw [thr2_o (by decide), thr2_o (by decide), ha, hp, nI_add, pk_div (by omega) (by decide) (by decide), pk_mul]
      have key : ∀ (s j : Nat) (x y : Int32) (q : Nat), s ≠ 25 → s ≠ 106 → s ≠ 103 → s ≠ 105 → u2 (u2 (u2 (thr (thr F (nI 0)) (nI 0)) 106 q x) 103 t (nI 0)) 105 t y s j = F s j := fun s j x y q h1 h2 h3 h4 => by
        rw [u2_s h4, u2_s h3, u2_s h2, thr2_o h1]
      refine ⟨?_, p * ((a + 9) / 10), ?_, ev⟩
      · show KP F (if _ then _ else _)
        split
        · refine ⟨?_, ?_, ?_, ?_⟩ <;> rw [cl_o (by decide), key _ _ _ _ _ (by decide) (by decide) (by decide) (by decide)]
        · exact ⟨key _ _ _ _ _ (by decide) (by decide) (by decide) (by decide), key _ _ _ _ _ (by decide) (by decide) (by decide) (by decide), key _ _ _ _ _ (by decide) (by decide) (by decide) (by decide), key _ _ _ _ _ (by decide) (by decide) (by decide) (by decide)⟩
      · have h1 : (a + 9) / 10 ≤ 1001 := by omega
        have h2 : p * ((a + 9) / 10) ≤ 50 * 1001 := Nat.mul_le_mul p1 h1
        omega
theorem pN_nn {F : FT} {hs : Nat → Nat} {m : Nat} : ∀ i : Nat, ∃ q, q ≤ i * m ∧ pN F hs (nI m) i = nI q
  | 0 => ⟨0, Nat.zero_le _, rfl⟩
  | i + 1 => by
    obtain ⟨q, h1, h2⟩ := pN_nn (F := F) (hs := hs) (m := m) i
    have e : (i + 1) * m = i * m + m := Nat.succ_mul i m
    show ∃ q, q ≤ (i + 1) * m ∧ pN F hs (nI m) i + (if cnT F hs i then nI m else nI 0) = nI q
    rw [h2]
    split
    · exact ⟨q + m, by omega, nI_add q m⟩
    · exact ⟨q, by omega, by rw [nI_add]; rfl⟩
theorem pass_K {F : FT} {hs : Nat → Nat} {m : Nat} : pF (pG F (nI m)) hs (nI m) 4 0 0 = F 0 0 + nI m ∧ pF (pG F (nI m)) hs (nI m) 4 1 0 = F 1 0 ∧ pF (pG F (nI m)) hs (nI m) 4 10 0 = F 10 0 ∧ pF (pG F (nI m)) hs (nI m) 4 108 0 = F 108 0 := by
  have e : ∀ s j, s ≠ 0 → s ≠ 25 → pG F (nI m) s j = F s j := fun s j h1 h2 => (u2_s h1).trans (u2_s h2)
  refine ⟨(pF_o (Or.inl (by decide))).trans u2_e, (pF_o (Or.inl (by decide))).trans (e _ _ (by decide) (by decide)), (pF_o (Or.inl (by decide))).trans (e _ _ (by decide) (by decide)), (pF_o (Or.inl (by decide))).trans (e _ _ (by decide) (by decide))⟩
/-- the script's bits -/
theorem shr8 (v : Int32) : ∃ X, X < 16777216 ∧ (v.toUInt32 >>> ((nI 8).toUInt32 &&& Int32.toUInt32 31)).toInt32 = nI X := by
  have e : ((nI 8).toUInt32 &&& Int32.toUInt32 31) = 8 := by decide
  rw [e]
  refine ⟨(v.toUInt32 >>> 8).toNat, ?_, ?_⟩
  · rw [UInt32.toNat_shiftRight]
    have h : v.toUInt32.toNat < 4294967296 := v.toUInt32.toNat_lt
    show v.toUInt32.toNat >>> 8 < _
    rw [Nat.shiftRight_eq_div_pow]
    show v.toUInt32.toNat / 256 < _
    omega
  · generalize v.toUInt32 >>> 8 = w
    refine Int32.toBitVec_inj.mp (BitVec.eq_of_toNat_eq ?_)
    show w.toBitVec.toNat = (BitVec.ofNat 32 w.toNat).toNat
    exact (Nat.mod_eq_of_lt w.toBitVec.isLt).symm
