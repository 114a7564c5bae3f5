-- ===== takeBack =====
def backF (F : FT) (u l : Nat) : FT := u2 (u2 (thr (thr F (nI 0)) (nI 0)) 106 (l - 1) (F 106 (l - 1) + (F 108 u - F 109 u) / nI 5)) 107 u (nI 0)
theorem backF_o {F : FT} {u l s j : Nat} (h : s ≠ 25 ∧ s ≠ 106 ∧ s ≠ 107) : backF F u l s j = F s j := by
  unfold backF thr
  rw [u2_s h.2.2, u2_s h.2.1, u2_s h.1, u2_s h.1]
theorem back107 {F : FT} {u l k : Nat} : backF F u l 107 k = if k = u then nI 0 else F 107 k := by
  unfold backF thr
  by_cases e : k = u
  · rw [if_pos e, e, u2_e]
  · rw [if_neg e, u2_j e, u2_s (by decide), u2_s (by decide), u2_s (by decide)]
theorem back106 {F : FT} {u l k : Nat} : backF F u l 106 k = if k = l - 1 then F 106 (l - 1) + (F 108 u - F 109 u) / nI 5 else F 106 k := by
  unfold backF thr
  rw [u2_s (by decide)]
  by_cases e : k = l - 1
  · rw [if_pos e, e, u2_e]
  · rw [if_neg e, u2_j e, u2_s (by decide), u2_s (by decide)]
theorem i_k20 {x k : Int32} : x + nI 20 + (k - nI 20) = x + k := by
  rw [Int32.add_assoc, Int32.add_comm (nI 20), Int32.sub_add_cancel]
theorem owe_back {F : FT} {g : GN} (hPI : PI F g) {u c' : Nat} (hu : u < 6) (hl : g 4 u ≠ 0) (c8 : c' < 8) : owe (backF F u (g 4 u)) c' = owe F c' + (if g 4 u - 1 = c' then (F 108 u - F 109 u) / nI 5 - nI 20 else 0) := by
  have e0 := (hPI.2.2.1 u hu).1
  unfold owe
  rw [back106]
  by_cases e : g 4 u - 1 = c'
  · subst e
    have a : (if 0 ≤ lastW (fun k => F 107 k = nI (g 4 u - 1 + 1)) 6 then nI 20 else nI 0) = nI 20 := by
      refine if_pos ?_
      rcases lastW_spec (fun k => F 107 k = nI (g 4 u - 1 + 1)) 6 with ⟨-, h2⟩ | ⟨j, h1, -, h3, -⟩
      · exact absurd (by rw [e0.1, show g 4 u - 1 + 1 = g 4 u by omega]) (h2 u hu)
      · rw [h3]; exact nI_pos' (by omega)
    have b : (if 0 ≤ lastW (fun k => backF F u (g 4 u) 107 k = nI (g 4 u - 1 + 1)) 6 then nI 20 else nI 0) = nI 0 := by
      refine if_neg ?_
      rcases lastW_spec (fun k => backF F u (g 4 u) 107 k = nI (g 4 u - 1 + 1)) 6 with ⟨h1, -⟩ | ⟨j, h1, h2, -, -⟩
      · rw [h1]; decide
      · exfalso
        rw [back107] at h2
        by_cases w : j = u
        · rw [if_pos w] at h2
          have := (nI_eq (by omega) (by omega)).mp h2
          omega
        · rw [if_neg w] at h2
          exact w (cue_u hPI h1 hu h2 (by rw [e0.1, show g 4 u - 1 + 1 = g 4 u by omega]) c8)
    rw [a, b, if_pos rfl, if_pos rfl, i_k20]
    exact Int32.add_zero _
  · rw [if_neg (fun q => e q.symm), if_neg e, Int32.add_zero, lastW_congr (q := fun k => F 107 k = nI (c' + 1)) (fun j _ => ?_)]
    rw [back107]
    by_cases w : j = u
    · rw [if_pos w, w, e0.1]
      exact ⟨fun q => absurd ((nI_eq (by omega) (by omega)).mp q) (by omega), fun q => absurd ((nI_eq (by omega) (by omega)).mp q) (by omega)⟩
    · rw [if_neg w]
theorem CIu_back {n : Nat} {Z : HS} {F A : FT} {g : GN} (h : CI n Z F g A) (hn : n < 512) {u : Nat} (hu : u < 6) (hl : g 4 u ≠ 0) : CI (n + 1) (sA (sR (sI Z 3 2 (300000 + g 5 u) (F 108 u)) 1 1 (100000 + u) none) 1800006 (g 4 u - 1) (owe F (g 4 u - 1) + -(nI 20 - ((F 108 u - F 109 u) / nI 5)))) (backF F u (g 4 u)) (u2 g 4 u 0) (u2 A 1 (g 5 u) ((F 108 u - F 109 u) / nI 5)) := by
  have h0 := h
  obtain ⟨hH, ⟨hPI, hPG, hZo⟩, ⟨hZh, hZd, hZw⟩, ⟨hZt, hZc, hZf⟩, ⟨hZr, hZs, hZl⟩, hZfr, hZbd⟩ := h0
  have hb := hZbd
  unfold Zbd at hb
  have how := fun c' (c8 : c' < 8) => owe_back hPI hu hl c8
  have hc0 := (hZc u hu).2.2 hl
  have hg5 := hPG.2.2.2.2 u hu hl
  have hl0 := hZl _ hg5.1
  obtain ⟨w0, w1, w2⟩ := (hPI.2.2.1 u hu).2
  have inj : ∀ v, v < 6 → g 4 v ≠ 0 → g 5 v = g 5 u → v = u := fun v hv z e => hPI.2.2.2.1 v u hv hu (by have := (hPG.2.2.2.2 v hv z).2; rw [e] at this; omega) z
  have g4 : ∀ v, u2 g 4 u 0 4 v = if v = u then 0 else g 4 v := fun v => by
    by_cases e : v = u
    · rw [if_pos e, e, u2n_e]
    · rw [if_neg e, u2n_j e]
  have lI : ∀ c9 k9 a9, ¬ (c9 = 3 ∧ k9 = 2 ∧ a9 = (300000 + g 5 u)) → xI (sA (sR (sI Z 3 2 (300000 + g 5 u) (F 108 u)) 1 1 (100000 + u) none) 1800006 (g 4 u - 1) (owe F (g 4 u - 1) + -(nI 20 - ((F 108 u - F 109 u) / nI 5)))) c9 k9 a9 = xI Z c9 k9 a9 := fun c9 k9 a9 w0 => by rw [xI_sA', xI_sR', xI_sI w0]
  have mI0 : xI (sA (sR (sI Z 3 2 (300000 + g 5 u) (F 108 u)) 1 1 (100000 + u) none) 1800006 (g 4 u - 1) (owe F (g 4 u - 1) + -(nI 20 - ((F 108 u - F 109 u) / nI 5)))) 3 2 (300000 + g 5 u) = (F 108 u) := by rw [xI_sA', xI_sR', xI_sIe]
  have lR : ∀ c9 k9 a9, ¬ (c9 = 1 ∧ k9 = 1 ∧ a9 = (100000 + u)) → xR (sA (sR (sI Z 3 2 (300000 + g 5 u) (F 108 u)) 1 1 (100000 + u) none) 1800006 (g 4 u - 1) (owe F (g 4 u - 1) + -(nI 20 - ((F 108 u - F 109 u) / nI 5)))) c9 k9 a9 = xR Z c9 k9 a9 := fun c9 k9 a9 w0 => by rw [xR_sA', xR_sR w0, xR_sI']
  have mR0 : xR (sA (sR (sI Z 3 2 (300000 + g 5 u) (F 108 u)) 1 1 (100000 + u) none) 1800006 (g 4 u - 1) (owe F (g 4 u - 1) + -(nI 20 - ((F 108 u - F 109 u) / nI 5)))) 1 1 (100000 + u) = none := by rw [xR_sA', xR_sRe]
  have lA : ∀ a9 i9, ¬ (a9 = 1800006 ∧ i9 = (g 4 u - 1)) → xA (sA (sR (sI Z 3 2 (300000 + g 5 u) (F 108 u)) 1 1 (100000 + u) none) 1800006 (g 4 u - 1) (owe F (g 4 u - 1) + -(nI 20 - ((F 108 u - F 109 u) / nI 5)))) a9 i9 = xA Z a9 i9 := fun a9 i9 w0 => by rw [xA_sA w0, xA_sR', xA_sI']
  have mA0 : xA (sA (sR (sI Z 3 2 (300000 + g 5 u) (F 108 u)) 1 1 (100000 + u) none) 1800006 (g 4 u - 1) (owe F (g 4 u - 1) + -(nI 20 - ((F 108 u - F 109 u) / nI 5)))) 1800006 (g 4 u - 1) = (owe F (g 4 u - 1) + -(nI 20 - ((F 108 u - F 109 u) / nI 5))) := by rw [xA_sAe]
  have lP : xP (sA (sR (sI Z 3 2 (300000 + g 5 u) (F 108 u)) 1 1 (100000 + u) none) 1800006 (g 4 u - 1) (owe F (g 4 u - 1) + -(nI 20 - ((F 108 u - F 109 u) / nI 5)))) = xP Z := by rw [xP_sA', xP_sR', xP_sI']
  have lJ : xJ (sA (sR (sI Z 3 2 (300000 + g 5 u) (F 108 u)) 1 1 (100000 + u) none) 1800006 (g 4 u - 1) (owe F (g 4 u - 1) + -(nI 20 - ((F 108 u - F 109 u) / nI 5)))) = xJ Z := by rw [xJ_sA', xJ_sR', xJ_sI']
  have lK : xK (sA (sR (sI Z 3 2 (300000 + g 5 u) (F 108 u)) 1 1 (100000 + u) none) 1800006 (g 4 u - 1) (owe F (g 4 u - 1) + -(nI 20 - ((F 108 u - F 109 u) / nI 5)))) = xK Z := by rw [xK_sA', xK_sR', xK_sI']
  have lN : xn (sA (sR (sI Z 3 2 (300000 + g 5 u) (F 108 u)) 1 1 (100000 + u) none) 1800006 (g 4 u - 1) (owe F (g 4 u - 1) + -(nI 20 - ((F 108 u - F 109 u) / nI 5)))) = xn Z := by rw [xn_sA', xn_sR', xn_sI']
  generalize sA (sR (sI Z 3 2 (300000 + g 5 u) (F 108 u)) 1 1 (100000 + u) none) 1800006 (g 4 u - 1) (owe F (g 4 u - 1) + -(nI 20 - ((F 108 u - F 109 u) / nI 5))) = L at *
  have gG : ∀ s j, s ≠ 4 → u2 g 4 u 0 s j = g s j := fun s j h => u2n_s h
  have o19 : A 1 (g 5 u) = nI 20 := by
    rcases hl0.2.2.2 with q | q
    · exact q.2
    · exact absurd hc0.2.2 q.1
  generalize u2 g 4 u 0 = G at *
  refine ⟨SH_t hH lK lN (fun c k a hc => lR _ _ _ (fun w => by omega)) (fun a i ha => by rw [lP]), ⟨⟨?_, fun i hi => ?_, fun v hv => ?_, fun v w hv hw => ?_, fun f hf => ?_, fun f hf => ?_⟩, ?_, fun c' hc' => ?_⟩, ⟨Zh_t hZh (fun k => lI _ _ _ (fun w => absurd w.1 (by decide))) (backF_o (by decide)) (fun s h1 h2 => gG _ _ (by omega)), fun c' hc' => ?_, Zw_t hZw (fun i => lA _ _ (fun w => absurd w.1 (by decide))) (fun c' => ?_)⟩, ⟨Zt_t hZt (fun k a => lI _ _ _ (fun w => absurd w.1 (by decide))) (fun k a => lR _ _ _ (fun w => absurd w.1 (by decide))) (fun i _ => ⟨backF_o (by decide), backF_o (by decide)⟩) (fun j => backF_o (by decide)) (fun s hs i => gG _ _ (by omega)), fun v hv => ?_, Zf_t hZf hPI.1.2.2 (fun f hf => by rw [lK, lN]; exact ⟨rfl, rfl, rfl⟩) (fun k f _ => lI _ _ _ (fun w => absurd w.1 (by decide))) (fun k f _ => lR _ _ _ (fun w => absurd w.1 (by decide))) (fun f j hf => lA _ _ (fun w => by omega)) (fun f => by rw [lP]) (fun s j h1 h2 => backF_o (by omega)) ⟨gG _ _ (by decide), fun f => gG _ _ (by decide)⟩⟩, ⟨Zr_t hZr (fun j _ => by rw [lK]) (fun k a => lI _ _ _ (fun w => absurd w.1 (by decide))) (fun i => by rw [lP]) (fun j => u2_s (by decide)) (gG _ _ (by decide)) (fun s j h1 h2 => gG _ _ (by omega)), Zs_t hZs (fun j _ => by rw [lK]) (fun k a => lI _ _ _ (fun w => absurd w.1 (by decide))) (fun i => by rw [lP]) (gG _ _ (by decide)) (fun s j h1 h2 => gG _ _ (by omega)), fun l hl' => ?_⟩, Zfr_t hZfr (fun a => by rw [lK]) (fun s h1 h2 => gG _ _ (by omega)), ?_⟩
  · rw [backF_o (by decide), backF_o (by decide), gG _ _ (by decide), gG _ _ (by decide)]; exact hPI.1
  · rw [backF_o (by decide), backF_o (by decide), backF_o (by decide), backF_o (by decide), gG _ _ (by decide), gG _ _ (by decide), gG _ _ (by decide), gG _ _ (by decide), gG _ _ (by decide), gG _ _ (by decide)]; exact hPI.2.1 i hi
  · rw [g4, back107, backF_o (by decide)]
    refine ⟨?_, (hPI.2.2.1 v hv).2⟩
    by_cases e : v = u
    · rw [if_pos e, if_pos e]; exact ⟨rfl, by omega⟩
    · rw [if_neg e, if_neg e]; exact (hPI.2.2.1 v hv).1
  · rw [g4, g4]
    by_cases e1 : v = u <;> by_cases e2 : w = u
    · exact fun _ _ => e1.trans e2.symm
    · rw [if_pos e1, if_neg e2]
      exact fun _ q => absurd rfl q
    · rw [if_neg e1, if_pos e2]
      exact fun q r => absurd q r
    · rw [if_neg e1, if_neg e2]
      exact hPI.2.2.2.1 v w hv hw
  · rw [gG _ _ (by decide)] at hf
    exact FrP_t (hPI.2.2.2.2.1 f hf) (fun s j h1 h2 => backF_o (by omega)) (fun s h1 h2 => gG _ _ (by omega)) (fun i => gG _ _ (by decide))
  · rw [gG _ _ (by decide)] at hf
    rw [backF_o (by decide), backF_o (by decide), backF_o (by decide), backF_o (by decide), backF_o (by decide)]
    exact hPI.2.2.2.2.2 f hf
  · obtain ⟨p1, p2, p3, p4, p5⟩ := hPG
    have hl9 : ∀ i st en m, lmS G i st en m = lmS g i st en m := fun i st en m => lmS_c (fun s _ => ⟨gG _ _ (by decide), gG _ _ (by decide), gG _ _ (by decide)⟩)
    have e1 := fun j => gG 1 j (by decide)
    have e3 := fun j => gG 3 j (by decide)
    refine ⟨fun j hj => ?_, fun i hi => ?_, fun s hs => ?_, fun i hi => ?_, fun v hv => ?_⟩
    · rw [gG _ _ (by decide)] at hj
      rw [hl9, gG 6 _ (by decide), gG 7 _ (by decide), gG 8 _ (by decide), gG 9 _ (by decide), gG 10 _ (by decide), gG 15 _ (by decide), gG 18 _ (by decide)]
      exact p1 j hj
    · rw [hl9, gG 0 _ (by decide), gG 2 _ (by decide), gG 6 _ (by decide), gG 7 _ (by decide), gG 8 _ (by decide), gG 9 _ (by decide), gG 15 _ (by decide), gG 17 _ (by decide), gG 18 _ (by decide), gG 24 _ (by decide)]
      exact p2 i hi
    · rw [gG 18 _ (by decide)] at hs
      unfold leag at p3 ⊢
      rw [gG 12 _ (by decide), gG 13 _ (by decide), gG 11 _ (by decide), gG 15 _ (by decide), e1, e3, backF_o (by decide)]
      exact p3 s hs
    · unfold leag at p4 ⊢
      rw [e1, e3, backF_o (by decide), gG 18 _ (by decide), gG 13 _ (by decide), gG 11 _ (by decide)]
      exact p4 i hi
    · rw [g4, gG 5 _ (by decide), gG 19 _ (by decide), gG 14 _ (by decide)]
      by_cases e : v = u
      · rw [if_pos e]; exact fun q => absurd rfl q
      · rw [if_neg e]; exact p5 v hv
  · rw [gG 17 _ (by decide), gG 19 _ (by decide), smR_c (g := g) (A := A) (fun j _ => ⟨gG _ _ (by decide), gG _ _ (by decide), u2_s (by decide)⟩), smL_c (g := g) (A := u2 A 1 (g 5 u) ((F 108 u - F 109 u) / nI 5)) (fun l _ => ⟨gG _ _ (by decide), rfl⟩), smL_u, how c' hc', ← hZo c' hc', o19]
    have e9 : (g 5 u < g 19 0 ∧ g 14 (g 5 u) = c') ↔ (g 4 u - 1 = c') := ⟨fun q => by have := hg5.2; omega, fun q => ⟨hg5.1, by have := hg5.2; omega⟩⟩
    simp only [e9]
    rw [Int32.add_assoc]
  · rw [how c' hc']
    by_cases e : c' = g 4 u - 1
    · subst e
      rw [if_pos rfl, mA0, Int32.neg_sub]
    · rw [if_neg (fun q => e q.symm), Int32.add_zero, lA _ _ (fun w => e w.2)]
      exact hZd c' hc'
  · rw [gG _ _ (by decide)]
    exact cnt_congr (fun j _ => by rw [backF_o (by decide), backF_o (by decide)])
  · rw [g4, gG 5 _ (by decide), lI 1 0 _ (fun w => absurd w.1 (by decide)), lI 3 1 _ (fun w => absurd w.2.1 (by decide)), backF_o (by decide), backF_o (by decide)]
    have := hZc v hv
    by_cases e : v = u
    · subst e
      rw [if_pos rfl]
      exact ⟨this.1, fun _ => mR0, fun z => absurd rfl z⟩
    · rw [if_neg e, lR _ _ _ (fun w => by omega)]
      refine ⟨this.1, this.2.1, fun z => ?_⟩
      rw [lI 3 2 _ (fun w => e (inj v hv z (by omega)))]
      exact this.2.2 z
  · rw [gG _ _ (by decide)] at hl'
    rw [gG _ _ (by decide), lK, lP, lI 3 0 _ (fun w => absurd w.2.1 (by decide)), lI 3 1 _ (fun w => absurd w.2.1 (by decide))]
    by_cases e : l = g 5 u
    · subst e
      rw [u2_e, mI0]
      refine ⟨hl0.1, hl0.2.1, hl0.2.2.1, Or.inr ⟨?_, by rw [hc0.2.1]⟩⟩
      rw [w2]
      exact nI_nm1 (by omega)
    · rw [u2_j e, lI 3 2 _ (fun w => e (by omega))]
      exact hZl l hl'
  · unfold Zbd
    rw [gG _ _ (by decide), gG _ _ (by decide), gG _ _ (by decide)]
    omega
