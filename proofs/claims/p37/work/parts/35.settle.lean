-- ===== what a shot leaves =====
def KV (B : Nat → Int32) (F : FT) : Prop := ∀ k, k < 8 → (B k = -1 → F 119 k = -1 ∧ ¬ dB F k) ∧ (¬ B k = -1 → F 119 k = -1 → dB F k)
theorem KV_rolls {B : Nat → Int32} {F : FT} {b x d : Nat} (h : KV B F) (hb : b < 8) (hx : F 119 b = nI x) (x1 : x < 128) : KV B (mRolls F b x d) := by
  have hB : ¬ B b = -1 := fun e => nI_nm1 (by omega) (hx.symm.trans ((h b hb).1 e).1)
  unfold mRolls
  by_cases e : cin x d ∧ rin x d
  · rw [if_pos e]
    by_cases g : mIn F (nI (nx x d)) = -1
    · rw [if_pos g]
      have y1 := nx_lt e.1 e.2
      intro k hk
      rw [mv_at, mv_dB hb hk]
      by_cases q : k = b
      · subst q
        rw [if_pos rfl]
        refine ⟨fun z => absurd z hB, fun _ z => Or.inr ⟨rfl, ?_⟩⟩
        apply Decidable.byContradiction
        intro np
        rw [if_neg np] at z
        exact nI_nm1 (by omega) z
      · rw [if_neg q]
        exact ⟨fun z => ⟨((h k hk).1 z).1, fun r => r.elim ((h k hk).1 z).2 (fun s => q s.1)⟩, fun z r => Or.inl ((h k hk).2 z r)⟩
    · rw [if_neg g]
      exact fun k hk => h k hk
  · rw [if_neg e]
    exact fun k hk => h k hk
theorem KV_step {B : Nat → Int32} {F : FT} {b : Nat} (h : KV B F) (hJ : JV F) (hb : b < 8) : KV B (mStep F b) := by
  unfold mStep
  by_cases e : F 119 b < 0
  · rw [if_pos e]; exact h
  · rw [if_neg e]
    by_cases e2 : F 121 b ≤ 0
    · rw [if_pos e2]; exact h
    · rw [if_neg e2]
      obtain ⟨x, x1, hx⟩ := hJ.1.nn hb (fun q => e (by rw [q]; decide))
      rw [hx, nI_clamp (by omega)]
      exact KV_rolls h hb hx x1
theorem JV_step {F : FT} {b : Nat} (hJ : JV F) (hb : b < 8) : JV (mStep F b) := by
  have h : RB 4 (fun s j => if s = 122 then b2 (dB F j) else F s j) F := ⟨fun j _ => ⟨rfl, rfl, rfl, rfl⟩, rfl, rfl, fun g => absurd g (by decide)⟩
  exact (RB_step h (by decide) hJ hb).2
theorem KV_tick {B : Nat → Int32} {F : FT} (h : KV B F) (hJ : JV F) : ∀ {i : Nat}, i ≤ 8 → KV B (mTick F i) ∧ JV (mTick F i)
  | 0, _ => ⟨h, hJ⟩
  | i + 1, hi => ⟨KV_step (KV_tick h hJ (by omega)).1 (KV_tick h hJ (by omega)).2 (by omega), JV_step (KV_tick h hJ (by omega)).2 (by omega)⟩
theorem KV_run {B : Nat → Int32} : ∀ {n : Nat} {F : FT}, KV B F → JV F → KV B (mRun F n)
  | 0, _, h, _ => h
  | n + 1, F, h, hJ => by
    show KV B (if anyB (isR F) 8 = true then mRun (mTick F 8) n else F)
    split
    · exact KV_run (KV_tick h hJ (Nat.le_refl 8)).1 (KV_tick h hJ (Nat.le_refl 8)).2
    · exact h
theorem KV_shot {F : FT} {f d : Nat} {z : Int32} (hV : BV F f) (hd : d < 8) (hD : DB F f) : KV (fun k => F 118 (8 * f + k)) (mShot F f d z) := by
  refine KV_run (fun k hk => ?_) (mS0_JV hV hd hD)
  rw [mS0_at hk]
  exact ⟨fun e => ⟨e, mS0_dB hk⟩, fun e g => absurd g e⟩
theorem KV.d0 {B : Nat → Int32} {F : FT} (h : KV B F) (hJ : JV F) {k : Nat} (hk : k < 8) (hB : ¬ B k = -1) : dB F k ↔ F 119 k = -1 :=
  ⟨fun g => Decidable.byContradiction (fun q => hJ.2.2.2 k hk q g), (h k hk).2 hB⟩
-- ===== the balls that come back =====
theorem cb_s {E : FT} {f k s j : Nat} (h : s ≠ 118 ∧ s ≠ 119) : cbF E f k s j = E s j := by
  unfold cbF
  rw [u2_s h.1, u2_s h.2]
theorem cb_at {E : FT} {f k j : Nat} : cbF E f k 119 j = if j = k then nI (cbC E k) else E 119 j := by
  unfold cbF
  rw [u2_s (by decide)]
  by_cases e : j = k
  · rw [if_pos e, e, u2_e]
  · rw [if_neg e, u2_j e]
theorem cb_bl {E : FT} {f k j : Nat} : cbF E f k 118 (8 * f + j) = if j = k then nI (cbC E k) else E 118 (8 * f + j) := by
  unfold cbF
  by_cases e : j = k
  · rw [if_pos e, e, u2_e]
  · rw [if_neg e, u2_j (by omega), u2_s (by decide)]
def FV (K : FT) (f i : Nat) (E : FT) : Prop := (∀ j, j < 8 → E 118 (8 * f + j) = E 119 j) ∧ DV E ∧ ∀ k, k < 8 → (k < i ∧ dB K k → ∃ c, c < 128 ∧ E 119 k = nI c) ∧ (¬ (k < i ∧ dB K k) → E 119 k = K 119 k)
theorem FV_all {K : FT} {f : Nat} (h1 : ∀ j, j < 8 → K 118 (8 * f + j) = K 119 j) (h2 : DV K) : ∀ {i : Nat}, i ≤ 8 → FV K f i (fF K f i)
  | 0, _ => ⟨h1, h2, fun k hk => ⟨fun g => absurd g.1 (Nat.not_lt_zero k), fun _ => rfl⟩⟩
  | i + 1, hi => by
    obtain ⟨g1, g2, g3⟩ := FV_all (i := i) h1 h2 (by omega)
    show FV K f (i + 1) (if dB K i then cbF (fF K f i) f i else fF K f i)
    by_cases e : dB K i
    · rw [if_pos e]
      obtain ⟨c1, c2⟩ := cbC_spec (fF K f i) i
      refine ⟨fun j hj => ?_, fun a b ha hb => ?_, fun k hk => ?_⟩
      · rw [cb_bl, cb_at]
        split
        · rfl
        · exact g1 j hj
      · rw [cb_at, cb_at]
        by_cases ea : a = i <;> by_cases eb : b = i
        · exact fun _ _ => ea.trans eb.symm
        · rw [if_pos ea, if_neg eb]
          exact fun q _ => absurd q.symm (mIn_no c2 hb)
        · rw [if_neg ea, if_pos eb]
          exact fun q _ => absurd q (mIn_no c2 ha)
        · rw [if_neg ea, if_neg eb]
          exact g2 a b ha hb
      · rw [cb_at]
        by_cases ek : k = i
        · rw [if_pos ek]
          exact ⟨fun _ => ⟨_, c1, rfl⟩, fun q => absurd ⟨by omega, ek ▸ e⟩ q⟩
        · rw [if_neg ek]
          exact ⟨fun q => (g3 k hk).1 ⟨by have := q.1; omega, q.2⟩, fun q => (g3 k hk).2 (fun r => q ⟨by have := r.1; omega, r.2⟩)⟩
    · rw [if_neg e]
      refine ⟨g1, g2, fun k hk => ?_⟩
      by_cases ek : k = i
      · exact ⟨fun q => absurd (ek ▸ q.2) e, fun _ => (g3 k hk).2 (fun r => by have := r.1; omega)⟩
      · exact ⟨fun q => (g3 k hk).1 ⟨by have := q.1; omega, q.2⟩, fun q => (g3 k hk).2 (fun r => q ⟨by have := r.1; omega, r.2⟩)⟩
theorem lowA_congr {p q : Nat → Prop} [DecidablePred p] [DecidablePred q] (h : ∀ k, k < 8 → (p k ↔ q k)) : ∀ {n : Nat}, lowA p n = lowA q n
  | 0 => rfl
  | n + 1 => by
    show (if p (7 - n) then nI (7 - n) else lowA p n) = (if q (7 - n) then nI (7 - n) else lowA q n)
    rw [lowA_congr h]
    simp only [h (7 - n) (by omega)]
theorem lowA_spec {p : Nat → Prop} [DecidablePred p] : ∀ {n : Nat}, n ≤ 7 → (lowA p n = -1 ∧ ∀ k, 8 - n ≤ k → k < 8 → ¬ p k) ∨ ∃ k, 8 - n ≤ k ∧ k < 8 ∧ p k ∧ lowA p n = nI k
  | 0, _ => Or.inl ⟨rfl, fun k h1 h2 => by omega⟩
  | n + 1, hn => by
    show ((if p (7 - n) then nI (7 - n) else lowA p n) = -1 ∧ _) ∨ ∃ k, _ ∧ _ ∧ _ ∧ (if p (7 - n) then nI (7 - n) else lowA p n) = nI k
    by_cases h : p (7 - n)
    · exact Or.inr ⟨7 - n, by omega, by omega, h, if_pos h⟩
    · rw [if_neg h]
      rcases lowA_spec (p := p) (n := n) (by omega) with ⟨h1, h2⟩ | ⟨k, h1, h2, h3, h4⟩
      · exact Or.inl ⟨h1, fun k g1 g2 => by by_cases e : k = 7 - n; (subst e; exact h); exact h2 k (by omega) g2⟩
      · exact Or.inr ⟨k, by omega, h2, h3, h4⟩
/-- behind a foul the ball on is the same -/
theorem low_fF {B : Nat → Int32} {K : FT} {f : Nat} (hKV : KV B K) (hJ : JV K) (h1 : ∀ j, j < 8 → K 118 (8 * f + j) = K 119 j) (hB : ∀ k, k < 8 → B k = -1 ∨ ∃ c, c < 128 ∧ B k = nI c) : lowF (fF K f 8) f = lowA (fun k => ¬ B k < 0) 7 := by
  obtain ⟨g1, -, g3⟩ := FV_all h1 hJ.2.1 (Nat.le_refl 8)
  refine lowA_congr (fun k hk => ?_)
  rw [g1 k hk]
  have neg : ∀ c, c < 128 → ¬ (nI c : Int32) < 0 := fun c hc => nI_pos (by omega)
  by_cases e : dB K k
  · obtain ⟨c, hc, ec⟩ := (g3 k hk).1 ⟨hk, e⟩
    rcases hB k hk with b | ⟨c2, hc2, b⟩
    · exact absurd e ((hKV k hk).1 b).2
    · rw [ec, b]
      exact ⟨fun _ => neg c2 hc2, fun _ => neg c hc⟩
  · rw [(g3 k hk).2 (fun q => e q.2)]
    rcases hB k hk with b | ⟨c2, hc2, b⟩
    · rw [b, ((hKV k hk).1 b).1]
    · have : ¬ K 119 k = -1 := fun q => e ((hKV k hk).2 (by rw [b]; exact nI_nm1 (by omega)) q)
      obtain ⟨c, hc, ec⟩ := hJ.1.nn hk this
      rw [ec, b]
      exact ⟨fun _ => neg c2 hc2, fun _ => neg c hc⟩
theorem sumD_ge {F : FT} {k : Nat} (h : dB F k) : ∀ {n : Nat}, k < n → k ≤ sumD F n
  | 0, h0 => absurd h0 (Nat.not_lt_zero k)
  | n + 1, hn => by
    show k ≤ sumD F n + (if dB F n then n else 0)
    by_cases e : k = n
    · subst e
      rw [if_pos h]
      omega
    · have := sumD_ge h (n := n) (by omega)
      omega
theorem fSum_lt (x : Int32) : (if nI 4 < x then x else nI 4) = fSum x := by
  unfold fSum
  by_cases e : nI 4 < x
  · rw [if_pos e, if_pos (Int32.le_of_lt e)]
  · rw [if_neg e]
    by_cases g : nI 4 ≤ x
    · rw [if_pos g]
      exact Int32.le_antisymm g (Int32.not_lt.mp e)
    · rw [if_neg g]
-- ===== the roll's outcome, read by a frame =====
def RO (Z : HS) (W : FT) : Prop := xK Z 10 = 0 ∧ xR Z 0 0 10 = some 1000129 ∧ xK Z 1000129 = 10 ∧ xn Z 1000129 = 8 ∧ xR Z 0 3 10 = some 1000132 ∧ xK Z 1000132 = 11 ∧ xn Z 1000132 = 8 ∧ (∀ j, j < 8 → xA Z 1000129 j = W 119 j ∧ xA Z 1000132 j = b2 (dB W j)) ∧ xI Z 0 5 10 = W 22 0
theorem RO.w {Y : HS} {W : FT} (h : RO Y W) {f p e : Nat} {D : FT} (e1 : 1200000 ≤ e) : RO (wF f p e Y D) W := by
  obtain ⟨h1, h2, h3, h4, h5, h6, h7, h8, h9⟩ := h
  refine ⟨h1, h2, h3, h4, h5, h6, h7, fun j hj => ?_, ?_⟩
  · rw [wF_Ax (by omega), wF_Ax (by omega)]
    exact h8 j hj
  · rw [wF_Ic (Or.inl (by decide))]
    exact h9
theorem RO.c {Y : HS} {W W' : FT} (h : RO Y W) (e1 : ∀ j, j < 8 → W' 119 j = W 119 j) (e2 : W' 24 0 = W 24 0) (e3 : W' 22 0 = W 22 0) : RO Y W' := by
  obtain ⟨h1, h2, h3, h4, h5, h6, h7, h8, h9⟩ := h
  refine ⟨h1, h2, h3, h4, h5, h6, h7, fun j hj => ?_, by rw [e3]; exact h9⟩
  unfold dB
  rw [e1 j hj, e2]
  exact h8 j hj
theorem RO_wB {Y : HS} {A W : FT} (hS : RS 0 10 1000010 Y) (hR : RB 0 A W) : RO (wB 0 10 1000010 Y A) W := by
  obtain ⟨h1, -, h2⟩ := hS
  have a0 := h2 0 (by decide) rfl
  have a3 := h2 3 (by decide) rfl
  refine ⟨h1, a0.1, a0.2.1, a0.2.2, a3.1, a3.2.1, a3.2.2, fun j hj => ?_, ?_⟩
  · rw [show xA (wB 0 10 1000010 Y A) 1000129 j = A 119 j from wB_A (s := 119) (by decide), show xA (wB 0 10 1000010 Y A) 1000132 j = A 122 j from wB_A (s := 122) (by decide)]
    exact ⟨(hR.1 j hj).1, (hR.1 j hj).2.2.2⟩
  · rw [show xI (wB 0 10 1000010 Y A) 0 5 10 = A 22 0 from wB_I (k := 5) (by decide)]
    exact hR.2.1
theorem C_dropC {Γ : GTy} {Z : HS} {W : FT} (hO : RO Z W) : Tn Γ M_X6_droppedNumbers [.ref 10] Z (rt (some (.int (nI (sumD W 8)))) Z) := by
  refine Tn_of' rfl rfl rfl ?_
  show G Γ M_X6_droppedNumbers (rm M_X6_droppedNumbers) (Vn Γ M_X6_droppedNumbers (rt (some (.int (nI (sumD W 8)))) Z)) (0, 0) 0 [some (.ref 10), none, none] [] Z
  have loop : ∀ (n9 j : Nat), j + n9 = 8 → G Γ M_X6_droppedNumbers (rm M_X6_droppedNumbers) (Vn Γ M_X6_droppedNumbers (rt (some (.int (nI (sumD W 8)))) Z)) (0, 0) 4 [some (.ref 10), some (.int (nI (sumD W j))), some (.int (nI j))] [] Z := by
    intro n9
    induction n9 with
    | zero =>
      intro j hj
      obtain rfl : j = 8 := by omega
      refine G_iload_n (pc := 4) dX6_droppedNumbers_4 rfl ?_
      refine G_bipush (pc := 5) (v := nI 8) dX6_droppedNumbers_5 (by first | rfl | decide) ?_
      refine G_icmp_geN (pc := 7) (tgt := 29) (by omega) (by omega) dX6_droppedNumbers_7 (by decide) (fun c7 => ?_) (fun c7 => ?_)
      · skip
        refine G_iload_n (pc := 29) dX6_droppedNumbers_29 rfl ?_
        refine G_iret (pc := 30) VZ.n dX6_droppedNumbers_30 rfl ⟨by decide, by decide⟩ ?_
        exact ⟨rfl, rfl⟩
      · omega
    | succ n9 ih =>
      intro j hj
      have hj9 : j < 8 := by omega
      refine G_iload_n (pc := 4) dX6_droppedNumbers_4 rfl ?_
      refine G_bipush (pc := 5) (v := nI 8) dX6_droppedNumbers_5 (by first | rfl | decide) ?_
      refine G_icmp_geN (pc := 7) (tgt := 29) (by omega) (by omega) dX6_droppedNumbers_7 (by decide) (fun c7 => ?_) (fun c7 => ?_)
      · omega
      · skip
        refine G_aload_n (pc := 10) dX6_droppedNumbers_10 rfl ?_
        refine G_getS (pc := 11) fl_X6_21_0 hO.1 rfl hO.2.2.2.2.1 dX6_droppedNumbers_11 ?_
        refine G_iload_n (pc := 14) dX6_droppedNumbers_14 rfl ?_
        refine G_baldv (pc := 15) (j := j) (v := b2 (dB W j)) (hO.2.2.2.2.2.2.2.1 j hj9).2 hO.2.2.2.2.2.1 rfl (Nat.lt_of_lt_of_eq hj9 hO.2.2.2.2.2.2.1.symm) (by omega) dX6_droppedNumbers_15 ?_
        refine G_if_eqB (pc := 16) (tgt := 23) dX6_droppedNumbers_16 (by decide) (fun c16 => ?_) (fun c16 => ?_)
        · skip
          refine G_iincN (pc := 23) dX6_droppedNumbers_23 rfl (by decide) ?_
          refine G_goto (pc := 26) (tgt := 4) dX6_droppedNumbers_26 (by decide) ?_
          have h9 := ih (j + 1) (by omega)
          first
            | (rw [sumD_f c16] at h9; exact h9)
            | (rw [sumD_t c16] at h9; exact h9)
        · skip
          refine G_iload_n (pc := 19) dX6_droppedNumbers_19 rfl ?_
          refine G_iload_n (pc := 20) dX6_droppedNumbers_20 rfl ?_
          refine G_iaddN (pc := 21) dX6_droppedNumbers_21 ?_
          refine G_istore_n (pc := 22) dX6_droppedNumbers_22 (by decide) ?_
          refine G_iincN (pc := 23) dX6_droppedNumbers_23 rfl (by decide) ?_
          refine G_goto (pc := 26) (tgt := 4) dX6_droppedNumbers_26 (by decide) ?_
          have h9 := ih (j + 1) (by omega)
          first
            | (rw [sumD_f c16] at h9; exact h9)
            | (rw [sumD_t c16] at h9; exact h9)
  refine G_iconst (pc := 0) (v := nI 0) dX6_droppedNumbers_0 (by first | rfl | decide) ?_
  refine G_istore_n (pc := 1) dX6_droppedNumbers_1 (by decide) ?_
  refine G_iconst (pc := 2) (v := nI 1) dX6_droppedNumbers_2 (by first | rfl | decide) ?_
  refine G_istore_n (pc := 3) dX6_droppedNumbers_3 (by decide) ?_
  have h9 := loop 7 1 rfl
  rw [sumD_1] at h9
  exact h9
theorem C_addPoints {Γ : GTy} {Y : HS} {f p e : Nat} (hP : FS p e Y) (D : FT) {u : Nat} (u1 : u ≤ 1) (x : Int32) : Tn Γ M_X2_addPoints [.ref p, .int (nI u), .int x] (wF f p e Y D) (rt none (wF f p e Y (u2 D 115 (2 * f + u) (D 115 (2 * f + u) + x)))) := by
  refine Tn_of' rfl rfl rfl ?_
  show G Γ M_X2_addPoints (rm M_X2_addPoints) (Vn Γ M_X2_addPoints (rt none (wF f p e Y (u2 D 115 (2 * f + u) (D 115 (2 * f + u) + x))))) (0, 0) 0 [some (.ref p), some (.int (nI u)), some (.int x)] [] (wF f p e Y D)
  refine G_iload_n (pc := 0) dX2_addPoints_0 rfl ?_
  refine G_if_eqN (pc := 1) (tgt := 17) (by omega) dX2_addPoints_1 (by decide) (fun c1 => ?_) (fun c1 => ?_)
  · skip
    refine G_aload_n (pc := 17) dX2_addPoints_17 rfl ?_
    refine G_dup (pc := 18) dX2_addPoints_18 rfl ?_
    refine F_getv (pc := 19) (kk := 8) (v := D 115 (2 * f)) rfl hP fl_X2_107 (by decide) dX2_addPoints_19 ?_
    refine G_iload_n (pc := 22) dX2_addPoints_22 rfl ?_
    refine G_iadd (pc := 23) dX2_addPoints_23 ?_
    refine F_put (pc := 24) (kk := 8) hP fl_X2_107 fw_2_8 (by decide) dX2_addPoints_24 ?_
    refine G_vret (pc := 27) VZ.n dX2_addPoints_27 rfl ⟨by decide, by decide⟩ ?_
    first
      | (have e9 : u = 0 := c1; subst e9; exact ⟨rfl, rfl⟩)
      | (have e9 : u = 1 := by omega
         subst e9; exact ⟨rfl, rfl⟩)
  · skip
    refine G_aload_n (pc := 4) dX2_addPoints_4 rfl ?_
    refine G_dup (pc := 5) dX2_addPoints_5 rfl ?_
    refine F_getv (pc := 6) (kk := 9) (v := D 115 (2 * f + 1)) rfl hP fl_X2_104 (by decide) dX2_addPoints_6 ?_
    refine G_iload_n (pc := 9) dX2_addPoints_9 rfl ?_
    refine G_iadd (pc := 10) dX2_addPoints_10 ?_
    refine F_put (pc := 11) (kk := 9) hP fl_X2_104 fw_2_9 (by decide) dX2_addPoints_11 ?_
    refine G_goto (pc := 14) (tgt := 27) dX2_addPoints_14 (by decide) ?_
    refine G_vret (pc := 27) VZ.n dX2_addPoints_27 rfl ⟨by decide, by decide⟩ ?_
    first
      | (have e9 : u = 0 := c1; subst e9; exact ⟨rfl, rfl⟩)
      | (have e9 : u = 1 := by omega
         subst e9; exact ⟨rfl, rfl⟩)
theorem C_leader {Γ : GTy} {Y : HS} {f p e : Nat} (hP : FS p e Y) (D : FT) (ha : xI Y 2 1 p = D 111 (2 * f)) (hb : xI Y 2 2 p = D 111 (2 * f + 1)) {u : Nat} (hu : D 114 f = nI u) (u1 : u ≤ 1) : Tn Γ M_X2_leader [.ref p] (wF f p e Y D) (rt (some (.int (D 111 (2 * f + overI D f u)))) (wF f p e Y D)) := by
  refine Tn_of' rfl rfl rfl ?_
  show G Γ M_X2_leader (rm M_X2_leader) (Vn Γ M_X2_leader (rt (some (.int (D 111 (2 * f + overI D f u)))) (wF f p e Y D))) (0, 0) 0 [some (.ref p)] [] (wF f p e Y D)
  refine G_aload_n (pc := 0) dX2_leader_0 rfl ?_
  refine F_getv (pc := 1) (kk := 8) (v := D 115 (2 * f)) rfl hP fl_X2_107 (by decide) dX2_leader_1 ?_
  refine G_aload_n (pc := 4) dX2_leader_4 rfl ?_
  refine F_getv (pc := 5) (kk := 9) (v := D 115 (2 * f + 1)) rfl hP fl_X2_104 (by decide) dX2_leader_5 ?_
  refine G_icmp_ne (pc := 8) (tgt := 16) dX2_leader_8 (by decide) (fun c8 => ?_) (fun c8 => ?_)
  · skip
    refine G_aload_n (pc := 16) dX2_leader_16 rfl ?_
    refine F_getv (pc := 17) (kk := 8) (v := D 115 (2 * f)) rfl hP fl_X2_107 (by decide) dX2_leader_17 ?_
    refine G_aload_n (pc := 20) dX2_leader_20 rfl ?_
    refine F_getv (pc := 21) (kk := 9) (v := D 115 (2 * f + 1)) rfl hP fl_X2_104 (by decide) dX2_leader_21 ?_
    refine G_icmp_le (pc := 24) (tgt := 34) dX2_leader_24 (by decide) (fun c24 => ?_) (fun c24 => ?_)
    · skip
      have e9 : overI D f u = 1 := by unfold overI; rw [if_pos c24, if_neg (fun g => c8 (Int32.le_antisymm c24 g))]
      refine G_aload_n (pc := 34) dX2_leader_34 rfl ?_
      refine F_getc (pc := 35) (kk := 2) (v := D 111 (2 * f + 1)) hb hP fl_X2_33 (by decide) dX2_leader_35 ?_
      refine G_iret (pc := 38) VZ.n dX2_leader_38 rfl ⟨by decide, by decide⟩ ?_
      rw [e9]
      exact ⟨rfl, rfl⟩
    · skip
      have e9 : overI D f u = 0 := by unfold overI; rw [if_neg c24]
      refine G_aload_n (pc := 27) dX2_leader_27 rfl ?_
      refine F_getc (pc := 28) (kk := 1) (v := D 111 (2 * f)) ha hP fl_X2_30 (by decide) dX2_leader_28 ?_
      refine G_goto (pc := 31) (tgt := 38) dX2_leader_31 (by decide) ?_
      refine G_iret (pc := 38) VZ.n dX2_leader_38 rfl ⟨by decide, by decide⟩ ?_
      rw [e9]
      exact ⟨rfl, rfl⟩
  · skip
    have e9 : overI D f u = u := by unfold overI; rw [if_pos (by rw [c8]; exact Int32.le_refl _), if_pos (by rw [c8]; exact Int32.le_refl _)]
    refine G_aload_n (pc := 11) dX2_leader_11 rfl ?_
    refine K_Vn0r (pc := 12) (k' := (0, 0)) mok_X2_player lk_X2_110 hP.1 rfl rfl rfl (aok0 rfl) dX2_leader_12 (C_player hP D ha hb hu u1) rfl ?_
    refine G_iret (pc := 15) VZ.n dX2_leader_15 rfl ⟨by decide, by decide⟩ ?_
    rw [e9]
    exact ⟨rfl, rfl⟩
theorem C_isFoul {Γ : GTy} {Y : HS} {f p e : Nat} (hP : FS p e Y) (D : FT) {W : FT} (hO : RO (wF f p e Y D) W) (x : Int32) : Tn Γ M_X2_isFoul [.ref p, .ref 10, .int x] (wF f p e Y D) (rt (some (.int (b2 (dB W 0 ∨ W 22 0 = -1 ∨ (¬ W 22 0 = x ∧ D 116 f = 0))))) (wF f p e Y D)) := by
  refine Tn_of' rfl rfl rfl ?_
  show G Γ M_X2_isFoul (rm M_X2_isFoul) (Vn Γ M_X2_isFoul (rt (some (.int (b2 (dB W 0 ∨ W 22 0 = -1 ∨ (¬ W 22 0 = x ∧ D 116 f = 0))))) (wF f p e Y D))) (0, 0) 0 [some (.ref p), some (.ref 10), some (.int x)] [] (wF f p e Y D)
  refine G_aload_n (pc := 0) dX2_isFoul_0 rfl ?_
  refine G_getS (pc := 1) fl_X2_70_0 hO.1 rfl hO.2.2.2.2.1 dX2_isFoul_1 ?_
  refine G_iconst (pc := 4) (v := nI 0) dX2_isFoul_4 (by first | rfl | decide) ?_
  refine G_baldv (pc := 5) (j := 0) (v := b2 (dB W 0)) (hO.2.2.2.2.2.2.2.1 0 (by decide)).2 hO.2.2.2.2.2.1 rfl (Nat.lt_of_lt_of_eq (by decide) hO.2.2.2.2.2.2.1.symm) (by omega) dX2_isFoul_5 ?_
  refine G_if_neB (pc := 6) (tgt := 32) dX2_isFoul_6 (by decide) (fun c6 => ?_) (fun c6 => ?_)
  · skip
    have e9 := b2_t (p := (dB W 0 ∨ W 22 0 = -1 ∨ (¬ W 22 0 = x ∧ D 116 f = 0))) (Or.inl c6)
    refine G_iconst (pc := 32) (v := nI 1) dX2_isFoul_32 (by first | rfl | decide) ?_
    refine G_goto (pc := 33) (tgt := 37) dX2_isFoul_33 (by decide) ?_
    refine G_zret (pc := 37) VZ.n dX2_isFoul_37 rfl (Or.inr rfl) ⟨by decide, by decide⟩ ?_
    exact ⟨congrArg (fun z => some (Value.int z)) e9.symm, rfl⟩
  · skip
    refine G_aload_n (pc := 9) dX2_isFoul_9 rfl ?_
    refine G_getIv (pc := 10) (v := W 22 0) hO.2.2.2.2.2.2.2.2 fl_X2_74_0 hO.1 rfl dX2_isFoul_10 ?_
    refine G_iconst (pc := 13) (v := -1) dX2_isFoul_13 (by first | rfl | decide) ?_
    refine G_icmp_eq (pc := 14) (tgt := 32) dX2_isFoul_14 (by decide) (fun c14 => ?_) (fun c14 => ?_)
    · skip
      have e9 := b2_t (p := (dB W 0 ∨ W 22 0 = -1 ∨ (¬ W 22 0 = x ∧ D 116 f = 0))) (Or.inr (Or.inl c14))
      refine G_iconst (pc := 32) (v := nI 1) dX2_isFoul_32 (by first | rfl | decide) ?_
      refine G_goto (pc := 33) (tgt := 37) dX2_isFoul_33 (by decide) ?_
      refine G_zret (pc := 37) VZ.n dX2_isFoul_37 rfl (Or.inr rfl) ⟨by decide, by decide⟩ ?_
      exact ⟨congrArg (fun z => some (Value.int z)) e9.symm, rfl⟩
    · skip
      refine G_aload_n (pc := 17) dX2_isFoul_17 rfl ?_
      refine G_getIv (pc := 18) (v := W 22 0) hO.2.2.2.2.2.2.2.2 fl_X2_74_0 hO.1 rfl dX2_isFoul_18 ?_
      refine G_iload_n (pc := 21) dX2_isFoul_21 rfl ?_
      refine G_icmp_eq (pc := 22) (tgt := 36) dX2_isFoul_22 (by decide) (fun c22 => ?_) (fun c22 => ?_)
      · skip
        have e9 := b2_f (p := (dB W 0 ∨ W 22 0 = -1 ∨ (¬ W 22 0 = x ∧ D 116 f = 0))) (fun g => g.elim c6 (fun g => g.elim c14 (fun g => g.1 c22)))
        refine G_iconst (pc := 36) (v := nI 0) dX2_isFoul_36 (by first | rfl | decide) ?_
        refine G_zret (pc := 37) VZ.n dX2_isFoul_37 rfl (Or.inl rfl) ⟨by decide, by decide⟩ ?_
        exact ⟨congrArg (fun z => some (Value.int z)) e9.symm, rfl⟩
      · skip
        refine G_aload_n (pc := 25) dX2_isFoul_25 rfl ?_
        refine F_getv (pc := 26) (kk := 7) (v := D 116 f) rfl hP fl_X2_77 (by decide) dX2_isFoul_26 ?_
        refine G_if_ne (pc := 29) (tgt := 36) dX2_isFoul_29 (by decide) (fun c29 => ?_) (fun c29 => ?_)
        · skip
          have e9 := b2_f (p := (dB W 0 ∨ W 22 0 = -1 ∨ (¬ W 22 0 = x ∧ D 116 f = 0))) (fun g => g.elim c6 (fun g => g.elim c14 (fun g => c29 g.2)))
          refine G_iconst (pc := 36) (v := nI 0) dX2_isFoul_36 (by first | rfl | decide) ?_
          refine G_zret (pc := 37) VZ.n dX2_isFoul_37 rfl (Or.inl rfl) ⟨by decide, by decide⟩ ?_
          exact ⟨congrArg (fun z => some (Value.int z)) e9.symm, rfl⟩
        · skip
          have e9 := b2_t (p := (dB W 0 ∨ W 22 0 = -1 ∨ (¬ W 22 0 = x ∧ D 116 f = 0))) (Or.inr (Or.inr ⟨c22, c29⟩))
          refine G_iconst (pc := 32) (v := nI 1) dX2_isFoul_32 (by first | rfl | decide) ?_
          refine G_goto (pc := 33) (tgt := 37) dX2_isFoul_33 (by decide) ?_
          refine G_zret (pc := 37) VZ.n dX2_isFoul_37 rfl (Or.inr rfl) ⟨by decide, by decide⟩ ?_
          exact ⟨congrArg (fun z => some (Value.int z)) e9.symm, rfl⟩
