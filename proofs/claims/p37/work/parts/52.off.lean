-- ===== a frame taken off its table: it waits =====
theorem Zf_u {Z Z' : HS} {F F' : FT} {g g' : GN} (h : Zf Z F g) (n20 : g 16 0 ≤ 20) (hK : xK Z' = xK Z) (hn : xn Z' = xn Z) (hI : ∀ k a, xI Z' 2 k a = xI Z 2 k a) (hA : ∀ f j, f < 20 → xA Z' (1200000 + f) j = xA Z (1200000 + f) j) (hP : ∀ f, xP Z' 1800002 f = xP Z 1800002 f) (hR : ∀ k a, k ≠ 5 → xR Z' 2 k a = xR Z 2 k a) (hT : ∀ f, f < g 16 0 → (g' 23 f = 0 → xR Z' 2 5 (200000 + f) = none) ∧ (g' 23 f ≠ 0 → xR Z' 2 5 (200000 + f) = some (700000 + (g' 23 f - 1)))) (e1 : ∀ s j, 111 ≤ s → s ≤ 118 → s ≠ 113 → F' s j = F s j) (e2 : g' 16 0 = g 16 0) : Zf Z' F' g' := by
  intro f hf
  rw [e2] at hf
  have := h f hf
  unfold FS at this ⊢
  rw [hK, hn, hP, hI, hI, hI, hI, hR 4 _ (by decide), e1 111 _ (by decide) (by decide) (by decide), e1 111 _ (by decide) (by decide) (by decide), e1 112 _ (by decide) (by decide) (by decide)]
  refine ⟨this.1, this.2.1, this.2.2.1, ⟨fun k h1 h2 => ?_, fun j hj => ?_⟩, hT f hf⟩
  · rw [hI, e1 (fs k) _ (by unfold fs; split <;> decide) (by unfold fs; split <;> decide) (by unfold fs; split <;> decide)]; exact this.2.2.2.1.1 k h1 h2
  · rw [hA _ _ (by omega), e1 118 _ (by decide) (by decide) (by decide)]; exact this.2.2.2.1.2 j hj
theorem FrP_113 {F F' : FT} {g g' : GN} {f : Nat} (q : FrP F g f) (e : ∀ s j, 111 ≤ s → s ≤ 118 → s ≠ 113 → F' s j = F s j) (e2 : ∀ s, 20 ≤ s → s ≤ 22 → g' s f = g s f) (hs : (F' 113 f = nI 2 ∧ ¬ F 117 f = -1 ∧ g' 23 f = 0) ∨ (F' 113 f = nI 1 ∧ F 117 f = -1 ∧ g' 23 f = 0 ∧ ¬ lowF F f = -1) ∨ (F' 113 f = nI 0 ∧ F 117 f = -1 ∧ ¬ lowF F f = -1 ∧ 1 ≤ g' 23 f ∧ g' 23 f ≤ 4 ∧ g' 1 (g' 23 f - 1) = f + 1)) : FrP F' g' f := by
  unfold FrP BV DB at q ⊢
  have el : lowF F' f = lowF F f := lowA_congr (fun k _ => by rw [e 118 _ (by decide) (by decide) (by decide)])
  rw [el]
  simp only [e 111 _ (by decide) (by decide) (by decide), e 112 _ (by decide) (by decide) (by decide), e 114 _ (by decide) (by decide) (by decide), e 116 _ (by decide) (by decide) (by decide), e 117 _ (by decide) (by decide) (by decide), e 118 _ (by decide) (by decide) (by decide), e2 20 (by decide) (by decide), e2 21 (by decide) (by decide), e2 22 (by decide) (by decide)]
  exact ⟨q.1, q.2.1, hs⟩
theorem lmS_m {g g' : GN} {i st en : Nat} : ∀ {m : Nat}, (∀ s, s < m → g' 11 s = g 11 s ∧ g' 12 s = g 12 s ∧ min (g' 13 s) en = min (g 13 s) en) → lmS g' i st en m = lmS g i st en m
  | 0, _ => rfl
  | m + 1, h => by
    show lmS g' i st en m + _ = lmS g i st en m + _
    rw [lmS_m (fun s hs => h s (by omega)), (h m (by omega)).1, (h m (by omega)).2.1, (h m (by omega)).2.2]
def offG (F : FT) (g : GN) (t : Nat) : GN := fun s j => if s = 1 ∧ j = t then 0 else if s = 23 ∧ j = g 1 t - 1 then 0 else if s = 13 ∧ leag F g t ∧ j = g 3 t then g 15 0 else g s j
theorem oG_o {F : FT} {g : GN} {t s j : Nat} (h : s ≠ 1 ∧ s ≠ 23 ∧ s ≠ 13) : offG F g t s j = g s j := by
  unfold offG
  rw [if_neg (fun w => h.1 w.1), if_neg (fun w => h.2.1 w.1), if_neg (fun w => h.2.2 w.1)]
theorem oG_1 {F : FT} {g : GN} {t i : Nat} : offG F g t 1 i = if i = t then 0 else g 1 i := by
  unfold offG
  by_cases e : i = t
  · rw [if_pos e, if_pos ⟨rfl, e⟩]
  · rw [if_neg e, if_neg (fun w => e w.2), if_neg (fun w => absurd w.1 (by decide)), if_neg (fun w => absurd w.1 (by decide))]
theorem oG_23 {F : FT} {g : GN} {t i : Nat} : offG F g t 23 i = if i = g 1 t - 1 then 0 else g 23 i := by
  unfold offG
  rw [if_neg (fun w => absurd w.1 (by decide))]
  by_cases e : i = g 1 t - 1
  · rw [if_pos e, if_pos ⟨rfl, e⟩]
  · rw [if_neg e, if_neg (fun w => e w.2), if_neg (fun w => absurd w.1 (by decide))]
theorem oG_13 {F : FT} {g : GN} {t i : Nat} : offG F g t 13 i = if leag F g t ∧ i = g 3 t then g 15 0 else g 13 i := by
  unfold offG
  rw [if_neg (fun w => absurd w.1 (by decide)), if_neg (fun w => absurd w.1 (by decide))]
  by_cases e : leag F g t ∧ i = g 3 t
  · rw [if_pos e, if_pos ⟨rfl, e⟩]
  · rw [if_neg e, if_neg (fun w => e w.2)]
theorem cl_o {F : FT} {t h s j : Nat} (q : s ≠ 104 ∧ s ≠ 113) : mClears F t h s j = F s j := by
  unfold mClears
  split
  · rw [u2_s q.1, u2_s q.2]
  · rfl
theorem cl_104 {F : FT} {t h i : Nat} (hh : h ≠ 0) : mClears F t h 104 i = if i = t then nI 0 else F 104 i := by
  unfold mClears
  rw [if_pos (by omega)]
  by_cases e : i = t
  · rw [if_pos e, e, u2_e]
  · rw [if_neg e, u2_j e, u2_s (by decide)]
theorem cl_113 {F : FT} {t h i : Nat} (hh : h ≠ 0) : mClears F t h 113 i = if i = h - 1 then nI 1 else F 113 i := by
  unfold mClears
  rw [if_pos (by omega), u2_s (by decide)]
  by_cases e : i = h - 1
  · rw [if_pos e, e, u2_e]
  · rw [if_neg e, u2_j e]
theorem CIu_off {n : Nat} {Z : HS} {F A : FT} {g : GN} (h : CI n Z F g A) {t : Nat} (ht : t < 4) (hz : g 1 t ≠ 0) {L : HS} (hK : xK L = xK Z) (hn : xn L = xn Z) (hA : xA L = xA Z) (hP : xP L = xP Z)
    (hI : ∀ c k a, ¬ (c = 6 ∧ k = 2 ∧ leag F g t ∧ a = 600000 + g 3 t) → xI L c k a = xI Z c k a) (hIs : leag F g t → xI L 6 2 (600000 + g 3 t) = nI (g 15 0))
    (hR : ∀ c k a, ¬ (c = 2 ∧ k = 5 ∧ a = 200000 + (g 1 t - 1)) → ¬ (c = 7 ∧ k = 3 ∧ a = 700000 + t) → ¬ (c = 7 ∧ k = 4 ∧ a = 700000 + t) → xR L c k a = xR Z c k a) (hR1 : xR L 2 5 (200000 + (g 1 t - 1)) = none) (hR2 : xR L 7 3 (700000 + t) = none) (hR3 : xR L 7 4 (700000 + t) = none) : CI n L (mClears F t (g 1 t)) (offG F g t) A := by
  have h0 := h
  obtain ⟨hH, ⟨hPI, hPG, hZo⟩, ⟨hZh, hZd, hZw⟩, ⟨hZt, hZc, hZf⟩, ⟨hZr, hZs, hZl⟩, hZfr, hZbd⟩ := h0
  have hb := hZbd
  unfold Zbd at hb
  have now := hPI.1.1.2
  have tt := hPI.2.1 t ht
  have hf : g 1 t - 1 < g 16 0 := by have := tt.2.2.1.2; omega
  have h23 := tt.2.2.2.2.2 hz
  have fr := hPI.2.2.2.2.1 _ hf
  have fr3 : F 113 (g 1 t - 1) = nI 0 ∧ F 117 (g 1 t - 1) = -1 ∧ ¬ lowF F (g 1 t - 1) = -1 := by
    rcases fr.2.2 with q | q | q
    · omega
    · omega
    · exact ⟨q.1, q.2.1, q.2.2.1⟩
  have lmE : ∀ i st en k, en ≤ g 15 0 → lmS (offG F g t) i st en k = lmS g i st en k := fun i st en k he => lmS_m (fun s _ => ⟨oG_o (by decide), oG_o (by decide), by
    rw [oG_13]
    split
    · next w =>
      have := (hPG.2.2.2.1 t ht w.1).2.1
      rw [w.2, this]
      omega
    · rfl⟩)
  have leE : ∀ i, i ≠ t → (leag (mClears F t (g 1 t)) (offG F g t) i ↔ leag F g i) := fun i hi => by
    unfold leag
    rw [oG_1, if_neg hi, cl_o (by decide)]
  have leT : ¬ leag (mClears F t (g 1 t)) (offG F g t) t := fun q => q.1 (by rw [oG_1, if_pos rfl])
  have OI : ∀ c k a, c ≠ 6 ∨ k ≠ 2 → xI L c k a = xI Z c k a := fun c k a q => hI c k a (fun w => by omega)
  have OR : ∀ c k a, c ≠ 2 → c ≠ 7 → xR L c k a = xR Z c k a := fun c k a q1 q2 => hR c k a (fun w => q1 w.1) (fun w => q2 w.1) (fun w => q2 w.1)
  refine ⟨SH_t hH hK hn (fun c k a hc => OR _ _ _ (by omega) (by omega)) (fun a i ha => by rw [hP]), ⟨⟨?_, fun i hi => ?_, fun v hv => ?_, fun v w hv hw => ?_, fun f hf' => ?_, fun f hf' => ?_⟩, ⟨fun j hj => ?_, fun i hi hz' => ?_, fun s hs => ?_, fun i hi => ?_, fun v hv => ?_⟩, fun c' hc' => ?_⟩, ⟨Zh_t hZh (fun k => OI _ _ _ (Or.inl (by decide))) (cl_o (by decide)) (fun s h1 h2 => oG_o (by omega)), Zd_t hZd (fun i => by rw [hA]) (owe_t (fun j => cl_o (by decide)) (fun j => cl_o (by decide))), Zw_t hZw (fun i => by rw [hA]) (fun c' => ?_)⟩, ⟨fun i hi => ?_, Zc_t hZc (fun k a => ⟨OI _ _ _ (Or.inl (by decide)), OI _ _ _ (Or.inl (by decide))⟩) (fun k a => OR _ _ _ (by decide) (by decide)) (fun u => ⟨cl_o (by decide), cl_o (by decide)⟩) (fun u => ⟨oG_o (by decide), oG_o (by decide)⟩), Zf_u hZf hPI.1.2.2 hK hn (fun k a => OI _ _ _ (Or.inl (by decide))) (fun f j _ => by rw [hA]) (fun f => by rw [hP]) (fun k a h5 => hR _ _ _ (fun w => h5 w.2.1) (fun w => absurd w.1 (by decide)) (fun w => absurd w.1 (by decide))) (fun f hf' => ?_) (fun s j h1 h2 h3 => cl_o ⟨by omega, h3⟩) (oG_o (by decide))⟩, ⟨Zr_t hZr (fun j _ => by rw [hK]) (fun k a => OI _ _ _ (Or.inl (by decide))) (fun i => by rw [hP]) (fun j => rfl) (oG_o (by decide)) (fun s j h1 h2 => oG_o (by omega)), fun s hs => ?_, Zl_t hZl (fun j _ => by rw [hK]) (fun k a => OI _ _ _ (Or.inl (by decide))) (fun i => by rw [hP]) (fun j => rfl) (oG_o (by decide)) (fun j => oG_o (by decide))⟩, Zfr_t hZfr (fun a => by rw [hK]) (fun s h1 h2 => oG_o (by omega)), ?_⟩
  · rw [cl_o (by decide), cl_o (by decide), oG_o (by decide), oG_o (by decide)]; exact hPI.1
  · rw [cl_o (by decide), cl_o (by decide), cl_104 hz, cl_o (by decide), oG_o (s := 0) (by decide), oG_1, oG_o (s := 16) (by decide), oG_o (s := 24) (by decide), oG_o (s := 15) (by decide), oG_23]
    have := hPI.2.1 i hi
    by_cases e : i = t
    · rw [if_pos e, if_pos e]
      exact ⟨this.1, this.2.1, ⟨rfl, Nat.zero_le _⟩, this.2.2.2.1, this.2.2.2.2.1, fun q => absurd rfl q⟩
    · rw [if_neg e, if_neg e]
      refine ⟨this.1, this.2.1, this.2.2.1, this.2.2.2.1, this.2.2.2.2.1, fun q => ?_⟩
      have w := this.2.2.2.2.2 q
      rw [if_neg (fun y => by rw [y] at w; omega)]
      exact w
  · rw [cl_o (by decide), cl_o (by decide), oG_o (by decide)]; exact hPI.2.2.1 v hv
  · rw [oG_o (by decide), oG_o (by decide)]; exact hPI.2.2.2.1 v w hv hw
  · rw [oG_o (by decide)] at hf'
    have q := hPI.2.2.2.2.1 f hf'
    refine FrP_113 q (fun s j h1 h2 h3 => cl_o ⟨by omega, h3⟩) (fun s h1 h2 => oG_o (by omega)) ?_
    rw [cl_113 hz, oG_23]
    by_cases e : f = g 1 t - 1
    · rw [if_pos e, if_pos e, e]
      exact Or.inr (Or.inl ⟨rfl, fr3.2.1, rfl, fr3.2.2⟩)
    · rw [if_neg e, if_neg e]
      rcases q.2.2 with w | w | w
      · exact Or.inl w
      · exact Or.inr (Or.inl w)
      · refine Or.inr (Or.inr ⟨w.1, w.2.1, w.2.2.1, w.2.2.2.1, w.2.2.2.2.1, ?_⟩)
        rw [oG_1, if_neg (fun y => by have := w.2.2.2.2.2; rw [y] at this; omega)]
        exact w.2.2.2.2.2
  · rw [oG_o (by decide)] at hf'
    rw [cl_113 hz, if_neg (by omega), cl_o (by decide), cl_o (by decide), cl_o (by decide), cl_o (by decide)]
    exact hPI.2.2.2.2.2 f hf'
  · rw [oG_o (by decide)] at hj
    have := hPG.1 j hj
    rw [oG_o (s := 6) (by decide), oG_o (s := 7) (by decide), oG_o (s := 8) (by decide), oG_o (s := 9) (by decide), oG_o (s := 10) (by decide), oG_o (s := 15) (by decide), oG_o (s := 18) (by decide)]
    refine ⟨this.1, this.2.1, this.2.2.1, fun q => ?_⟩
    rw [lmE _ _ _ _ (this.2.2.2 q).1]
    exact this.2.2.2 q
  · rw [oG_o (by decide)] at hz'
    rw [oG_o (s := 0) (by decide), oG_o (s := 2) (by decide), oG_o (s := 6) (by decide), oG_o (s := 7) (by decide), oG_o (s := 8) (by decide), oG_o (s := 9) (by decide), oG_o (s := 15) (by decide), oG_o (s := 17) (by decide), oG_o (s := 18) (by decide), oG_o (s := 24) (by decide), lmE _ _ _ _ (Nat.le_refl _)]
    exact hPG.2.1 i hi hz'
  · rw [oG_o (s := 18) (by decide)] at hs
    have := hPG.2.2.1 s hs
    rw [oG_o (s := 12) (by decide), oG_o (s := 11) (by decide), oG_o (s := 15) (by decide), oG_13, oG_o (s := 3) (by decide)]
    by_cases e : leag F g t ∧ s = g 3 t
    · rw [if_pos e]
      exact ⟨this.1, Or.inr (Nat.le_refl _), fun q => by omega⟩
    · rw [if_neg e]
      refine ⟨this.1, this.2.1, fun q => ?_⟩
      have w := this.2.2 q
      have ne : g 11 s ≠ t := fun y => by
        rw [y] at w
        exact e ⟨w.1, w.2.symm⟩
      exact ⟨(leE _ ne).mpr w.1, w.2⟩
  · intro q
    have ne : i ≠ t := fun y => leT (y ▸ q)
    have w := hPG.2.2.2.1 i hi ((leE i ne).mp q)
    rw [oG_o (s := 3) (by decide), oG_o (s := 18) (by decide), oG_o (s := 11) (by decide), oG_13]
    rw [if_neg (fun y => ne (by have := (hPG.2.2.2.1 t ht y.1).2.2; rw [← y.2] at this; omega))]
    exact w
  · rw [oG_o (s := 4) (by decide), oG_o (s := 5) (by decide), oG_o (s := 19) (by decide), oG_o (s := 14) (by decide)]
    exact hPG.2.2.2.2 v hv
  · rw [oG_o (s := 17) (by decide), oG_o (s := 19) (by decide), smR_c (g := g) (A := A) (fun j hj => ⟨oG_o (by decide), oG_o (by decide), rfl⟩), smL_c (g := g) (A := A) (fun l _ => ⟨oG_o (by decide), rfl⟩), hZo c' hc', owe_t (F' := mClears F t (g 1 t)) (F := F) (fun j => cl_o (by decide)) (fun j => cl_o (by decide))]
  · rw [oG_o (by decide)]
    exact cnt_congr (fun j _ => by rw [cl_o (by decide), cl_o (by decide)])
  · have := hZt i hi
    rw [OI 7 0 _ (Or.inl (by decide)), OI 7 2 _ (Or.inl (by decide)), hR 7 1 _ (fun w => absurd w.1 (by decide)) (fun w => absurd w.2.1 (by decide)) (fun w => absurd w.2.1 (by decide)), b2_eq (q := F 102 i = 0) (by rw [cl_o (by decide)]), oG_o (s := 0) (by decide), oG_o (s := 2) (by decide), oG_o (s := 3) (by decide), cl_o (s := 105) (by decide), oG_1]
    by_cases e : i = t
    · rw [if_pos e, e, hR2, hR3]
      rw [e] at this
      exact ⟨this.1, this.2.1, this.2.2.1, fun _ => rfl, fun q => absurd rfl q, fun _ => rfl, fun q => absurd q leT⟩
    · rw [if_neg e, hR 7 3 _ (fun w => absurd w.1 (by decide)) (fun w => by omega) (fun w => absurd w.2.1 (by decide)), hR 7 4 _ (fun w => absurd w.1 (by decide)) (fun w => absurd w.2.1 (by decide)) (fun w => by omega)]
      exact ⟨this.1, this.2.1, this.2.2.1, this.2.2.2.1, this.2.2.2.2.1, fun q => this.2.2.2.2.2.1 (fun y => q ((leE i e).mpr y)), fun q => this.2.2.2.2.2.2 ((leE i e).mp q)⟩
  · rw [oG_23]
    by_cases e : f = g 1 t - 1
    · rw [if_pos e, e]
      exact ⟨fun _ => hR1, fun q => absurd rfl q⟩
    · rw [if_neg e, hR 2 5 _ (fun w => by omega) (fun w => absurd w.1 (by decide)) (fun w => absurd w.1 (by decide))]
      exact (hZf f hf').2.2.2.2
  · rw [oG_o (by decide)] at hs
    have := hZs s hs
    rw [hK, hP, OI 6 0 _ (Or.inr (by decide)), OI 6 1 _ (Or.inr (by decide)), oG_o (s := 11) (by decide), oG_o (s := 12) (by decide), oG_13]
    refine ⟨this.1, this.2.1, this.2.2.1, ?_⟩
    by_cases e : leag F g t ∧ s = g 3 t
    · rw [if_pos e, e.2, hIs e.1, if_neg (by omega)]
    · rw [if_neg e, hI 6 2 _ (fun w => e ⟨w.2.2.1, by omega⟩)]
      exact this.2.2.2
  · unfold Zbd
    rw [oG_o (by decide), oG_o (by decide), oG_o (by decide)]
    omega
