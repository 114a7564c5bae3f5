-- ===== pass: what it leaves =====
def psZ (Z : HS) (F : FT) (hs : Nat → Nat) (m : Nat) : Nat → HS
  | 0 => Z
  | j + 1 => if cnT F hs j then sI (psZ Z F hs m j) 7 2 (700000 + j) (xI Z 7 2 (700000 + j) + nI m) else psZ Z F hs m j
theorem psZ_t {Z : HS} {F : FT} {hs : Nat → Nat} {m j : Nat} (h : cnT F hs j) : psZ Z F hs m (j + 1) = sI (psZ Z F hs m j) 7 2 (700000 + j) (xI Z 7 2 (700000 + j) + nI m) := if_pos h
theorem psZ_f {Z : HS} {F : FT} {hs : Nat → Nat} {m j : Nat} (h : ¬ cnT F hs j) : psZ Z F hs m (j + 1) = psZ Z F hs m j := if_neg h
theorem ps_o {Z : HS} {F : FT} {hs : Nat → Nat} {m c k a : Nat} : ∀ {i : Nat}, (∀ j, j < i → ¬ (c = 7 ∧ k = 2 ∧ a = 700000 + j)) → xI (psZ Z F hs m i) c k a = xI Z c k a
  | 0, _ => rfl
  | i + 1, h => by
    by_cases e : cnT F hs i
    · rw [psZ_t e, xI_sI (h i (by omega))]
      exact ps_o (fun j hj => h j (by omega))
    · rw [psZ_f e]
      exact ps_o (fun j hj => h j (by omega))
theorem ps_i {Z : HS} {F : FT} {hs : Nat → Nat} {m j : Nat} : ∀ {i : Nat}, j < i → xI (psZ Z F hs m i) 7 2 (700000 + j) = if cnT F hs j then xI Z 7 2 (700000 + j) + nI m else xI Z 7 2 (700000 + j)
  | 0, h => absurd h (Nat.not_lt_zero j)
  | i + 1, h => by
    by_cases q : j = i
    · subst q
      by_cases e : cnT F hs j
      · rw [psZ_t e, if_pos e, xI_sIe]
      · rw [psZ_f e, if_neg e]
        exact ps_o (fun l hl w => by omega)
    · by_cases e : cnT F hs i
      · rw [psZ_t e, xI_sI (fun w => by omega)]
        exact ps_i (by omega)
      · rw [psZ_f e]
        exact ps_i (by omega)
theorem ps_R {Z : HS} {F : FT} {hs : Nat → Nat} {m : Nat} : ∀ {i : Nat}, xR (psZ Z F hs m i) = xR Z ∧ xA (psZ Z F hs m i) = xA Z ∧ xP (psZ Z F hs m i) = xP Z ∧ xK (psZ Z F hs m i) = xK Z ∧ xn (psZ Z F hs m i) = xn Z ∧ rF (psZ Z F hs m i) = rF Z
  | 0 => ⟨rfl, rfl, rfl, rfl, rfl, rfl⟩
  | i + 1 => by
    by_cases e : cnT F hs i
    · rw [psZ_t e, xR_sI', xA_sI', xP_sI', xK_sI', xn_sI', rF_sI (by decide)]
      exact ps_R
    · rw [psZ_f e]
      exact ps_R
def psG (F : FT) (g : GN) (m : Nat) : GN := fun s j => if s = 15 ∧ j = 0 then g 15 0 + m else if s = 24 ∧ cnT F (g 1) j then g 24 j + m else g s j
theorem pg_o {F : FT} {g : GN} {m s j : Nat} (h : s ≠ 15 ∧ s ≠ 24) : psG F g m s j = g s j := by
  unfold psG
  rw [if_neg (by omega), if_neg (by omega)]
theorem pg_15 {F : FT} {g : GN} {m : Nat} : psG F g m 15 0 = g 15 0 + m := if_pos ⟨rfl, rfl⟩
theorem pg_24 {F : FT} {g : GN} {m j : Nat} : psG F g m 24 j = if cnT F (g 1) j then g 24 j + m else g 24 j := by
  unfold psG
  rw [if_neg (by omega)]
  by_cases e : cnT F (g 1) j
  · rw [if_pos ⟨rfl, e⟩, if_pos e]
  · rw [if_neg (fun q => e q.2), if_neg e]
theorem pFo {F : FT} {hs : Nat → Nat} {x : Int32} {s j : Nat} (h : s ≠ 0 ∧ s ≠ 25 ∧ s ≠ 105) : pF (pG F x) hs x 4 s j = F s j := by
  rw [pF_o (Or.inl h.2.2)]
  unfold pG thr
  rw [u2_s h.1, u2_s h.2.1]
theorem pF0 {F : FT} {hs : Nat → Nat} {x : Int32} : pF (pG F x) hs x 4 0 0 = F 0 0 + x := by
  rw [pF_o (Or.inl (by decide))]
  exact u2_e
theorem pF105 {F : FT} {hs : Nat → Nat} {x : Int32} {j : Nat} (hj : j < 4) : pF (pG F x) hs x 4 105 j = if cnT F hs j then F 105 j + x else F 105 j := by
  have e : pG F x 105 j = F 105 j := rfl
  by_cases w : cnT F hs j
  · rw [if_pos w, ← e]
    exact if_pos ⟨rfl, hj, w⟩
  · rw [if_neg w, ← e]
    exact if_neg (fun q => w q.2.2)
theorem lm_p0 {g : GN} {i st a m : Nat} : ∀ {k : Nat}, (∀ s, s < k → g 11 s = i → g 13 s ≤ a) → lmS g i st (a + m) k = lmS g i st a k
  | 0, _ => rfl
  | k + 1, h => by
    show lmS g i st (a + m) k + (if g 11 k = i then min (g 13 k) (a + m) - max (g 12 k) st else 0) = lmS g i st a k + (if g 11 k = i then min (g 13 k) a - max (g 12 k) st else 0)
    rw [lm_p0 (fun s hs => h s (by omega))]
    by_cases e : g 11 k = i
    · have := h k (by omega) e
      rw [if_pos e, if_pos e]
      omega
    · rw [if_neg e, if_neg e]
theorem lm_p1 {g : GN} {i st a m s0 : Nat} (h0 : g 11 s0 = i ∧ g 13 s0 = 20000 ∧ g 12 s0 ≤ a ∧ st ≤ a ∧ a + m ≤ 20000) : ∀ {k : Nat}, (∀ s, s < k → s ≠ s0 → g 11 s = i → g 13 s ≤ a) → lmS g i st (a + m) k = lmS g i st a k + (if s0 < k then m else 0)
  | 0, _ => by
    rw [if_neg (Nat.not_lt_zero s0)]
    rfl
  | k + 1, h => by
    show lmS g i st (a + m) k + (if g 11 k = i then min (g 13 k) (a + m) - max (g 12 k) st else 0) = lmS g i st a k + (if g 11 k = i then min (g 13 k) a - max (g 12 k) st else 0) + _
    rw [lm_p1 h0 (fun s hs => h s (by omega))]
    by_cases q : k = s0
    · subst q
      obtain ⟨e1, e2, e3, e4, e5⟩ := h0
      rw [if_pos e1, if_pos e1, if_neg (Nat.lt_irrefl k), if_pos (Nat.lt_succ_self k), e2]
      omega
    · have e9 : (s0 < k + 1) ↔ (s0 < k) := by omega
      simp only [e9]
      by_cases e : g 11 k = i
      · have := h k (by omega) q e
        rw [if_pos e, if_pos e]
        split <;> omega
      · rw [if_neg e, if_neg e]
        omega
theorem cnT_iff {F : FT} {g : GN} (hPI : PI F g) {i : Nat} (hi : i < 4) : cnT F (g 1) i ↔ (g 0 i ≠ 0 ∧ ¬ leag F g i) := by
  have e := (hPI.2.1 i hi).2.1
  have e1 : (¬ F 103 i ≤ 0) ↔ g 0 i ≠ 0 := by
    rw [e.1]
    constructor
    · intro q w
      exact q (by rw [w]; decide)
    · intro q
      exact nI_nle (by omega) (by omega)
  unfold cnT leag
  rw [e1]
  constructor
  · rintro ⟨a, b⟩
    exact ⟨a, fun q => b.elim q.1 q.2⟩
  · rintro ⟨a, b⟩
    refine ⟨a, ?_⟩
    by_cases z : g 1 i = 0
    · exact Or.inl z
    · exact Or.inr (Decidable.byContradiction (fun q => b ⟨z, q⟩))
theorem CIu_pass {n : Nat} {Z : HS} {F A : FT} {g : GN} (h : CI n Z F g A) (hn : n < 512) {m : Nat} (hm : g 15 0 + m ≤ 10000) : CI (n + 1) (psZ (sI Z 8 15 800000 (nI (g 15 0 + m))) F (g 1) m 4) (pF (pG F (nI m)) (g 1) (nI m) 4) (psG F g m) A := by
  have h0 := h
  obtain ⟨hH, ⟨hPI, hPG, hZo⟩, ⟨hZh, hZd, hZw⟩, ⟨hZt, hZc, hZf⟩, ⟨hZr, hZs, hZl⟩, hZfr, hZbd⟩ := h0
  have hb := hZbd
  unfold Zbd at hb
  obtain ⟨r1, r2, r3, r4, r5, -⟩ := ps_R (Z := sI Z 8 15 800000 (nI (g 15 0 + m))) (F := F) (hs := g 1) (m := m) (i := 4)
  rw [xR_sI'] at r1
  rw [xA_sI'] at r2
  rw [xP_sI'] at r3
  rw [xK_sI'] at r4
  rw [xn_sI'] at r5
  have lI : ∀ c k a, c ≠ 7 ∨ k ≠ 2 → ¬ (c = 8 ∧ k = 15 ∧ a = 800000) → xI (psZ (sI Z 8 15 800000 (nI (g 15 0 + m))) F (g 1) m 4) c k a = xI Z c k a := fun c k a h1 h2 => by
    rw [ps_o (fun j _ w => by omega), xI_sI h2]
  have mI : xI (psZ (sI Z 8 15 800000 (nI (g 15 0 + m))) F (g 1) m 4) 8 15 800000 = nI (g 15 0 + m) := by rw [ps_o (fun j _ w => by omega), xI_sIe]
  have tI : ∀ i, i < 4 → xI (psZ (sI Z 8 15 800000 (nI (g 15 0 + m))) F (g 1) m 4) 7 2 (700000 + i) = if cnT F (g 1) i then xI Z 7 2 (700000 + i) + nI m else xI Z 7 2 (700000 + i) := fun i hi => by
    rw [ps_i hi, xI_sI (fun w => absurd w.1 (by decide))]
  generalize psZ (sI Z 8 15 800000 (nI (g 15 0 + m))) F (g 1) m 4 = L at *
  have lmE : ∀ i st en k, lmS (psG F g m) i st en k = lmS g i st en k := fun i st en k => lmS_c (fun s _ => ⟨pg_o (by decide), pg_o (by decide), pg_o (by decide)⟩)
  have O8 : ∀ k a, k ≠ 15 → xI L 8 k a = xI Z 8 k a := fun k a h => lI _ _ _ (Or.inl (by decide)) (fun w => h w.2.1)
  have OI : ∀ c k a, c ≠ 7 → c ≠ 8 → xI L c k a = xI Z c k a := fun c k a h1 h2 => lI _ _ _ (Or.inl h1) (fun w => h2 w.1)
  refine ⟨SH_t hH r4 r5 (fun c k a hc => by rw [r1]) (fun a i ha => by rw [r3]), ⟨⟨?_, fun i hi => ?_, fun v hv => ?_, fun v w hv hw => ?_, fun f hf => ?_, fun f hf => ?_⟩, ⟨fun j hj => ?_, fun i hi hz => ?_, fun s hs => ?_, fun i hi => ?_, fun v hv => ?_⟩, fun c' hc' => ?_⟩, ⟨⟨⟨?_, ?_⟩, ⟨?_, ?_⟩, ?_, ?_⟩, Zd_t hZd (fun i => by rw [r2]) (owe_t (fun j => pFo (by decide)) (fun j => pFo (by decide))), Zw_t hZw (fun i => by rw [r2]) (fun c' => ?_)⟩, ⟨fun i hi => ?_, Zc_t hZc (fun k a => ⟨OI _ _ _ (by decide) (by decide), OI _ _ _ (by decide) (by decide)⟩) (fun k a => by rw [r1]) (fun u => ⟨pFo (by decide), pFo (by decide)⟩) (fun u => ⟨pg_o (by decide), pg_o (by decide)⟩), Zf_t hZf hPI.1.2.2 (fun f hf => by rw [r4, r5]; exact ⟨rfl, rfl, rfl⟩) (fun k f _ => OI _ _ _ (by decide) (by decide)) (fun k f _ => by rw [r1]) (fun f j hf => by rw [r2]) (fun f => by rw [r3]) (fun s j h1 h2 => pFo (by omega)) ⟨pg_o (by decide), fun f => pg_o (by decide)⟩⟩, ⟨Zr_t hZr (fun j _ => by rw [r4]) (fun k a => OI _ _ _ (by decide) (by decide)) (fun i => by rw [r3]) (fun j => rfl) (pg_o (by decide)) (fun s j h1 h2 => pg_o (by omega)), Zs_t hZs (fun j _ => by rw [r4]) (fun k a => OI _ _ _ (by decide) (by decide)) (fun i => by rw [r3]) (pg_o (by decide)) (fun s j h1 h2 => pg_o (by omega)), Zl_t hZl (fun j _ => by rw [r4]) (fun k a => OI _ _ _ (by decide) (by decide)) (fun i => by rw [r3]) (fun j => rfl) (pg_o (by decide)) (fun j => pg_o (by decide))⟩, Zfr_t hZfr (fun a => by rw [r4]) (fun s h1 h2 => pg_o (by omega)), ?_⟩
  · rw [pF0, pFo (by decide), pg_15, pg_o (by decide), hPI.1.1.1, nI_add]; exact ⟨⟨rfl, hm⟩, hPI.1.2⟩
  · rw [pFo (by decide), pFo (by decide), pFo (by decide), pF105 hi, pg_24, pg_15, pg_o (s := 0) (by decide), pg_o (s := 1) (by decide), pg_o (s := 16) (by decide), pg_o (s := 23) (by decide)]
    have := hPI.2.1 i hi
    refine ⟨this.1, this.2.1, this.2.2.1, ?_, fun z => ?_, this.2.2.2.2.2⟩
    · by_cases e : cnT F (g 1) i
      · rw [if_pos e, if_pos e, this.2.2.2.1.1, nI_add]; exact ⟨rfl, by have := this.2.2.2.1.2; omega⟩
      · rw [if_neg e, if_neg e]; exact ⟨this.2.2.2.1.1, by have := this.2.2.2.1.2; omega⟩
    · rw [if_neg (fun q => ((cnT_iff hPI hi).mp q).1 z)]
      exact this.2.2.2.2.1 z
  · rw [pFo (by decide), pFo (by decide), pg_o (by decide)]; exact hPI.2.2.1 v hv
  · rw [pg_o (by decide), pg_o (by decide)]; exact hPI.2.2.2.1 v w hv hw
  · rw [pg_o (by decide)] at hf
    exact FrP_t (hPI.2.2.2.2.1 f hf) (fun s j h1 h2 => pFo (by omega)) (fun s h1 h2 => pg_o (by omega)) (fun i => pg_o (by decide))
  · rw [pg_o (by decide)] at hf
    rw [pFo (by decide), pFo (by decide), pFo (by decide), pFo (by decide), pFo (by decide)]
    exact hPI.2.2.2.2.2 f hf
  · rw [pg_o (by decide)] at hj
    have := hPG.1 j hj
    rw [lmE, pg_15, pg_o (s := 6) (by decide), pg_o (s := 7) (by decide), pg_o (s := 8) (by decide), pg_o (s := 9) (by decide), pg_o (s := 10) (by decide), pg_o (s := 18) (by decide)]
    exact ⟨this.1, this.2.1, by have := this.2.2.1; omega, fun q => ⟨by have := (this.2.2.2 q).1; omega, (this.2.2.2 q).2⟩⟩
  · rw [pg_o (by decide)] at hz
    have := hPG.2.1 i hi hz
    rw [lmE, pg_15, pg_24, pg_o (s := 0) (by decide), pg_o (s := 2) (by decide), pg_o (s := 6) (by decide), pg_o (s := 7) (by decide), pg_o (s := 8) (by decide), pg_o (s := 9) (by decide), pg_o (s := 17) (by decide), pg_o (s := 18) (by decide)]
    refine ⟨this.1, this.2.1, this.2.2.1, this.2.2.2.1, ?_⟩
    have st := (hPG.1 _ this.1).2.2.1
    have acc := this.2.2.2.2
    by_cases e : leag F g i
    · rw [if_neg (fun q => ((cnT_iff hPI hi).mp q).2 e)]
      obtain ⟨s1, s2, s3⟩ := hPG.2.2.2.1 i hi e
      rw [lm_p1 (s0 := g 3 i) ⟨s3, s2, (hPG.2.2.1 _ s1).1.1, st, by omega⟩ (fun s hs ne h11 => ?_), if_pos s1]
      · omega
      · rcases (hPG.2.2.1 s hs).2.1 with q | q
        · exact absurd (by have := ((hPG.2.2.1 s hs).2.2 q).2; rw [h11] at this; exact this.symm) ne
        · exact q
    · rw [if_pos ((cnT_iff hPI hi).mpr ⟨hz, e⟩), lm_p0 (fun s hs h11 => ?_)]
      · omega
      · rcases (hPG.2.2.1 s hs).2.1 with q | q
        · exact absurd (h11 ▸ ((hPG.2.2.1 s hs).2.2 q).1) e
        · exact q
  · rw [pg_o (s := 18) (by decide)] at hs
    have := hPG.2.2.1 s hs
    unfold leag at this ⊢
    rw [pg_15, pg_o (s := 12) (by decide), pg_o (s := 13) (by decide), pg_o (s := 11) (by decide), pg_o (s := 1) (by decide), pg_o (s := 3) (by decide), pFo (by decide)]
    exact ⟨⟨by have := this.1.1; omega, this.1.2⟩, this.2.1.imp id (fun q => by omega), this.2.2⟩
  · have := hPG.2.2.2.1 i hi
    unfold leag at this ⊢
    rw [pg_o (s := 1) (by decide), pg_o (s := 3) (by decide), pFo (by decide), pg_o (s := 18) (by decide), pg_o (s := 13) (by decide), pg_o (s := 11) (by decide)]
    exact this
  · rw [pg_o (s := 4) (by decide), pg_o (s := 5) (by decide), pg_o (s := 19) (by decide), pg_o (s := 14) (by decide)]
    exact hPG.2.2.2.2 v hv
  · rw [pg_o (s := 17) (by decide), pg_o (s := 19) (by decide), smR_c (g := g) (A := A) (fun j hj => ⟨pg_o (by decide), pg_o (by decide), rfl⟩), smL_c (g := g) (A := A) (fun l _ => ⟨pg_o (by decide), rfl⟩), hZo c' hc', owe_t (F' := pF (pG F (nI m)) (g 1) (nI m) 4) (F := F) (fun j => pFo (by decide)) (fun j => pFo (by decide))]
  · rw [O8 _ _ (by decide), pg_o (by decide)]; exact hZh.1.1
  · rw [O8 _ _ (by decide), pg_o (by decide)]; exact hZh.1.2
  · rw [O8 _ _ (by decide), pg_o (by decide)]; exact hZh.2.1.1
  · rw [O8 _ _ (by decide), pg_o (by decide)]; exact hZh.2.1.2
  · rw [O8 _ _ (by decide), pFo (by decide)]; exact hZh.2.2.1
  · rw [mI, pg_15]
  · rw [pg_o (by decide)]
    exact cnt_congr (fun j _ => by rw [pFo (by decide), pFo (by decide)])
  · have := hZt i hi
    unfold leag at this ⊢
    rw [lI 7 0 _ (Or.inr (by decide)) (fun w => absurd w.1 (by decide)), r1, tI i hi, b2_eq (q := F 102 i = 0) (by rw [pFo (by decide)]), pg_o (s := 0) (by decide), pg_o (s := 1) (by decide), pg_o (s := 2) (by decide), pg_o (s := 3) (by decide), pFo (s := 112) (by decide), pF105 hi]
    refine ⟨this.1, this.2.1, fun z => ⟨(this.2.2.1 z).1, ?_⟩, this.2.2.2⟩
    by_cases e : cnT F (g 1) i
    · rw [if_pos e, if_pos e, (this.2.2.1 z).2]
    · rw [if_neg e, if_neg e]; exact (this.2.2.1 z).2
  · unfold Zbd
    rw [pg_o (by decide), pg_o (by decide), pg_o (by decide)]
    omega
