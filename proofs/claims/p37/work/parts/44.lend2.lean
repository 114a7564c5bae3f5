-- ===== lend =====
theorem FrP_t {F F' : FT} {g g' : GN} {f : Nat} (q : FrP F g f) (e : ∀ s j, 111 ≤ s → s ≤ 118 → F' s j = F s j) (e2 : ∀ s, 20 ≤ s → s ≤ 23 → g' s f = g s f) (e3 : ∀ i, g' 1 i = g 1 i) : FrP F' g' f := by
  unfold FrP BV DB lowF at q ⊢
  simp only [e 111 _ (by decide) (by decide), e 112 _ (by decide) (by decide), e 113 _ (by decide) (by decide), e 114 _ (by decide) (by decide), e 116 _ (by decide) (by decide), e 117 _ (by decide) (by decide), e 118 _ (by decide) (by decide), e2 20 (by decide) (by decide), e2 21 (by decide) (by decide), e2 22 (by decide) (by decide), e2 23 (by decide) (by decide), e3]
  exact q
theorem lendF_o {F : FT} {u c s j : Nat} (h : s ≠ 25 ∧ s ≠ 107 ∧ s ≠ 109) : lendF F u c s j = F s j := by
  unfold lendF thr
  rw [u2_s h.2.2, u2_s h.2.1, u2_s h.1, u2_s h.1]
theorem lendG_o {g : GN} {u c s j : Nat} (h : s ≠ 4 ∧ s ≠ 5 ∧ s ≠ 14 ∧ s ≠ 19) : lendG g u c s j = g s j := by
  unfold lendG
  rw [u2n_s h.2.2.2, u2n_s h.2.2.1, u2n_s h.2.1, u2n_s h.1]
theorem lend19 {g : GN} {u c : Nat} : lendG g u c 19 0 = g 19 0 + 1 := u2n_e
theorem CIu_lend {n : Nat} {Z : HS} {F A : FT} {g : GN} (h : CI n Z F g A) (hn : n < 512) {u c : Nat} (hu : u < 6) (hc : c < 8) (hl : g 4 u = 0) (hq : lastW (fun k => F 107 k = nI (c + 1)) 6 = -1) : CI (n + 1) (lendZ Z (g 19 0) u c (F 108 u) (owe F c + nI 20)) (lendF F u c) (lendG g u c) (u2 A 1 (g 19 0) (nI 20)) := by
  have h0 := h
  obtain ⟨hH, ⟨hPI, hPG, hZo⟩, ⟨hZh, hZd, hZw⟩, ⟨hZt, hZc, hZf⟩, ⟨hZr, hZs, hZl⟩, hZfr, hZbd⟩ := h0
  have hb := hZbd
  unfold Zbd at hb
  have q99 := hZfr.2.2.2 (g 19 0) (Nat.le_refl _) (by omega)
  obtain ⟨j1, ⟨j2, j3, j4⟩, ⟨j5, j6, j7⟩, ⟨j8, j9, j10⟩⟩ := agCJ (lnZ_AG (c := c) (w := F 108 u) q99) h
  have h0 : F 107 u = nI 0 := by rw [(hPI.2.2.1 u hu).1.1, hl]
  have how := fun c' (c8 : c' < 8) => owe_lend (F := F) hu hc c8 h0 hq
  have nb : ∀ v, v < 6 → g 4 v ≠ c + 1 := fun v hv e => (lastW_no (p := fun k => F 107 k = nI (c + 1)) hq hv) (show F 107 v = nI (c + 1) by rw [(hPI.2.2.1 v hv).1.1, e])
  have kq : xK (lnZ Z (300000 + g 19 0) c (F 108 u)) (300000 + g 19 0) = 3 := va_up_self _ _ _
  have i2 : xI (lnZ Z (300000 + g 19 0) c (F 108 u)) 3 2 (300000 + g 19 0) = -1 := if_pos ⟨rfl, rfl, rfl⟩
  have i0 : xI (lnZ Z (300000 + g 19 0) c (F 108 u)) 3 0 (300000 + g 19 0) = nI c := if_pos ⟨rfl, rfl, rfl⟩
  have i1 : xI (lnZ Z (300000 + g 19 0) c (F 108 u)) 3 1 (300000 + g 19 0) = F 108 u := if_pos ⟨rfl, rfl, rfl⟩
  have xk : ∀ a, a ≠ 300000 + g 19 0 → xK (lnZ Z (300000 + g 19 0) c (F 108 u)) a = xK Z a := fun a ha => va_up_ne _ _ ha
  unfold lendZ
  generalize lnZ Z (300000 + g 19 0) c (F 108 u) = N at *
  have lI : ∀ c' k a, ¬ (c' = 8 ∧ k = 13 ∧ a = 800000) → xI (sA (sI (sP (sR N 1 1 (100000 + u) (some (300000 + g 19 0))) 1800005 (g 19 0) (some (300000 + g 19 0))) 8 13 800000 (nI (g 19 0 + 1))) 1800006 c (owe F c + nI 20)) c' k a = xI N c' k a := fun c' k a w => by rw [xI_sA', xI_sI w, xI_sP', xI_sR']
  have lR : ∀ c' k a, ¬ (c' = 1 ∧ k = 1 ∧ a = 100000 + u) → xR (sA (sI (sP (sR N 1 1 (100000 + u) (some (300000 + g 19 0))) 1800005 (g 19 0) (some (300000 + g 19 0))) 8 13 800000 (nI (g 19 0 + 1))) 1800006 c (owe F c + nI 20)) c' k a = xR N c' k a := fun c' k a w => by rw [xR_sA', xR_sI', xR_sP', xR_sR w]
  have lP : ∀ a i, ¬ (a = 1800005 ∧ i = g 19 0) → xP (sA (sI (sP (sR N 1 1 (100000 + u) (some (300000 + g 19 0))) 1800005 (g 19 0) (some (300000 + g 19 0))) 8 13 800000 (nI (g 19 0 + 1))) 1800006 c (owe F c + nI 20)) a i = xP N a i := fun a i w => by rw [xP_sA', xP_sI', xP_sP w, xP_sR']
  have lA : ∀ a i, ¬ (a = 1800006 ∧ i = c) → xA (sA (sI (sP (sR N 1 1 (100000 + u) (some (300000 + g 19 0))) 1800005 (g 19 0) (some (300000 + g 19 0))) 8 13 800000 (nI (g 19 0 + 1))) 1800006 c (owe F c + nI 20)) a i = xA N a i := fun a i w => by rw [xA_sA w, xA_sI', xA_sP', xA_sR']
  have mI : xI (sA (sI (sP (sR N 1 1 (100000 + u) (some (300000 + g 19 0))) 1800005 (g 19 0) (some (300000 + g 19 0))) 8 13 800000 (nI (g 19 0 + 1))) 1800006 c (owe F c + nI 20)) 8 13 800000 = nI (g 19 0 + 1) := by rw [xI_sA', xI_sIe]
  have mR : xR (sA (sI (sP (sR N 1 1 (100000 + u) (some (300000 + g 19 0))) 1800005 (g 19 0) (some (300000 + g 19 0))) 8 13 800000 (nI (g 19 0 + 1))) 1800006 c (owe F c + nI 20)) 1 1 (100000 + u) = some (300000 + g 19 0) := by rw [xR_sA', xR_sI', xR_sP', xR_sRe]
  have mP : xP (sA (sI (sP (sR N 1 1 (100000 + u) (some (300000 + g 19 0))) 1800005 (g 19 0) (some (300000 + g 19 0))) 8 13 800000 (nI (g 19 0 + 1))) 1800006 c (owe F c + nI 20)) 1800005 (g 19 0) = some (300000 + g 19 0) := by rw [xP_sA', xP_sI', xP_sPe]
  have mA : xA (sA (sI (sP (sR N 1 1 (100000 + u) (some (300000 + g 19 0))) 1800005 (g 19 0) (some (300000 + g 19 0))) 8 13 800000 (nI (g 19 0 + 1))) 1800006 c (owe F c + nI 20)) 1800006 c = owe F c + nI 20 := xA_sAe
  have lK : xK (sA (sI (sP (sR N 1 1 (100000 + u) (some (300000 + g 19 0))) 1800005 (g 19 0) (some (300000 + g 19 0))) 8 13 800000 (nI (g 19 0 + 1))) 1800006 c (owe F c + nI 20)) = xK N := by rw [xK_sA', xK_sI', xK_sP', xK_sR']
  have lN : xn (sA (sI (sP (sR N 1 1 (100000 + u) (some (300000 + g 19 0))) 1800005 (g 19 0) (some (300000 + g 19 0))) 8 13 800000 (nI (g 19 0 + 1))) 1800006 c (owe F c + nI 20)) = xn N := by rw [xn_sA', xn_sI', xn_sP', xn_sR']
  generalize sA (sI (sP (sR N 1 1 (100000 + u) (some (300000 + g 19 0))) 1800005 (g 19 0) (some (300000 + g 19 0))) 8 13 800000 (nI (g 19 0 + 1))) 1800006 c (owe F c + nI 20) = L at *
  refine ⟨SH_t j1 lK lN (fun c' k a hc => lR c' k a (fun w => by omega)) (fun a i ha => lP a i (fun w => by omega)), ⟨⟨?_, fun i hi => ?_, fun v hv => ?_, fun v w hv hw => ?_, fun f hf => ?_, fun f hf => ?_⟩, ⟨fun j hj => ?_, fun i hi hz => ?_, fun s hs => ?_, fun i hi => ?_, fun v hv => ?_⟩, fun c' hc' => ?_⟩, ⟨⟨?_, ⟨?_, ?_⟩, ?_⟩, fun c' hc' => ?_, Zw_t j4 (fun i => lA _ _ (fun w => absurd w.1 (by decide))) (fun c' => ?_)⟩, ⟨Zt_t j5 (fun k a => lI _ _ _ (fun w => absurd w.1 (by decide))) (fun k a => lR _ _ _ (fun w => absurd w.1 (by decide))) (fun i _ => ⟨lendF_o (by decide), lendF_o (by decide)⟩) (fun j => lendF_o (by decide)) (fun s hs i => lendG_o (by omega)), fun v hv => ?_, Zf_t j7 hPI.1.2.2 (fun f hf => by rw [lK, lN]; exact ⟨rfl, rfl, rfl⟩) (fun k f _ => lI _ _ _ (fun w => absurd w.1 (by decide))) (fun k f _ => lR _ _ _ (fun w => absurd w.1 (by decide))) (fun f j hf => lA _ _ (fun w => by omega)) (fun f => lP _ _ (fun w => absurd w.1 (by decide))) (fun s j h1 h2 => lendF_o (by omega)) ⟨lendG_o (by decide), fun f => lendG_o (by decide)⟩⟩, ⟨Zr_t j8 (fun j _ => by rw [lK]) (fun k a => lI _ _ _ (fun w => absurd w.1 (by decide))) (fun i => lP _ _ (fun w => absurd w.1 (by decide))) (fun j => u2_s (by decide)) (lendG_o (by decide)) (fun s j h1 h2 => lendG_o (by omega)), Zs_t j9 (fun j _ => by rw [lK]) (fun k a => lI _ _ _ (fun w => absurd w.1 (by decide))) (fun i => lP _ _ (fun w => absurd w.1 (by decide))) (lendG_o (by decide)) (fun s j h1 h2 => ?_), fun l hl' => ?_⟩, ⟨fun f h1 h2 => ?_, fun j h1 h2 => ?_, fun j h1 h2 => ?_, fun j h1 h2 => ?_⟩, ?_⟩
  · rw [lendF_o (by decide), lendF_o (by decide), lendG_o (by decide), lendG_o (by decide)]; exact hPI.1
  · rw [lendF_o (by decide), lendF_o (by decide), lendF_o (by decide), lendF_o (by decide), lendG_o (by decide), lendG_o (by decide), lendG_o (by decide), lendG_o (by decide), lendG_o (by decide), lendG_o (by decide)]; exact hPI.2.1 i hi
  · rw [lend4]
    refine ⟨?_, by rw [lendF_o (by decide)]; exact (hPI.2.2.1 v hv).2⟩
    show u2 (thr (thr F (nI 0)) (nI 0)) 107 u (nI (c + 1)) 107 v = _ ∧ _
    by_cases e : v = u
    · rw [if_pos e, e, u2_e]; exact ⟨rfl, by omega⟩
    · rw [if_neg e, u2_j e]; exact (hPI.2.2.1 v hv).1
  · rw [lend4, lend4]
    by_cases e1 : v = u <;> by_cases e2 : w = u
    · exact fun _ _ => e1.trans e2.symm
    · rw [if_pos e1, if_neg e2]
      exact fun q _ => absurd q.symm (nb w hw)
    · rw [if_neg e1, if_pos e2]
      exact fun q _ => absurd q (nb v hv)
    · rw [if_neg e1, if_neg e2]
      exact hPI.2.2.2.1 v w hv hw
  · rw [lendG_o (by decide)] at hf
    exact FrP_t (hPI.2.2.2.2.1 f hf) (fun s j h1 h2 => lendF_o (by omega)) (fun s h1 h2 => lendG_o (by omega)) (fun i => lendG_o (by decide))
  · rw [lendG_o (by decide)] at hf
    rw [lendF_o (by decide), lendF_o (by decide), lendF_o (by decide), lendF_o (by decide), lendF_o (by decide)]
    exact hPI.2.2.2.2.2 f hf
  · rw [lendG_o (s := 17) (by decide)] at hj
    rw [lmS_c (g := g) (fun s _ => ⟨lendG_o (by decide), lendG_o (by decide), lendG_o (by decide)⟩), lendG_o (by decide), lendG_o (by decide), lendG_o (by decide), lendG_o (by decide), lendG_o (by decide), lendG_o (by decide), lendG_o (by decide)]
    exact hPG.1 j hj
  · rw [lendG_o (by decide)] at hz
    rw [lmS_c (g := g) (fun s _ => ⟨lendG_o (by decide), lendG_o (by decide), lendG_o (by decide)⟩)]
    simp only [lendG_o (g := g) (u := u) (c := c) (s := 2) (by decide), lendG_o (g := g) (u := u) (c := c) (s := 0) (by decide), lendG_o (g := g) (u := u) (c := c) (s := 6) (by decide), lendG_o (g := g) (u := u) (c := c) (s := 7) (by decide), lendG_o (g := g) (u := u) (c := c) (s := 8) (by decide), lendG_o (g := g) (u := u) (c := c) (s := 9) (by decide), lendG_o (g := g) (u := u) (c := c) (s := 15) (by decide), lendG_o (g := g) (u := u) (c := c) (s := 17) (by decide), lendG_o (g := g) (u := u) (c := c) (s := 18) (by decide), lendG_o (g := g) (u := u) (c := c) (s := 24) (by decide)]
    exact hPG.2.1 i hi hz
  · rw [lendG_o (s := 18) (by decide)] at hs
    have := hPG.2.2.1 s hs
    unfold leag at this ⊢
    rw [lendG_o (s := 12) (by decide), lendG_o (s := 13) (by decide), lendG_o (s := 11) (by decide), lendG_o (s := 15) (by decide), lendG_o (s := 1) (by decide), lendG_o (s := 3) (by decide), lendF_o (by decide)]
    exact this
  · have := hPG.2.2.2.1 i hi
    unfold leag at this ⊢
    rw [lendG_o (s := 1) (by decide), lendG_o (s := 3) (by decide), lendF_o (by decide), lendG_o (s := 18) (by decide), lendG_o (s := 13) (by decide), lendG_o (s := 11) (by decide)]
    exact this
  · rw [lend4, lend5, lend14, lend19]
    by_cases e : v = u
    · rw [if_pos e, if_pos e, if_pos rfl]
      exact fun _ => ⟨Nat.lt_succ_self _, rfl⟩
    · rw [if_neg e, if_neg e]
      intro z
      have := hPG.2.2.2.2 v hv z
      rw [if_neg (by omega)]
      exact ⟨Nat.lt_succ_of_lt this.1, this.2⟩
  · rw [lendG_o (s := 17) (by decide), lend19, smR_c (g := g) (A := A) (fun j _ => ⟨lendG_o (by decide), lendG_o (by decide), u2_s (by decide)⟩)]
    show _ + (smL (lendG g u c) (u2 A 1 (g 19 0) (nI 20)) c' (g 19 0) + (if lendG g u c 14 (g 19 0) = c' then u2 A 1 (g 19 0) (nI 20) 1 (g 19 0) else 0)) = _
    rw [smL_c (g := g) (A := A) (fun l hl => ⟨by rw [lend14, if_neg (by omega)], u2_j (by omega)⟩), lend14, if_pos rfl, u2_e, how c' hc', ← hZo c' hc', Int32.add_assoc]
  · rw [lI _ _ _ (by decide), lI _ _ _ (by decide), lendG_o (by decide), lendG_o (by decide)]; exact j2.1
  · rw [lI _ _ _ (by decide), lendG_o (by decide)]; exact j2.2.1.1
  · rw [mI, lend19]
  · rw [lI _ _ _ (by decide), lI _ _ _ (by decide), lendF_o (by decide), lendG_o (by decide)]; exact j2.2.2
  · rw [how c' hc']
    by_cases e : c' = c
    · subst e
      rw [if_pos rfl]
      exact mA
    · rw [if_neg (fun q => e q.symm), Int32.add_zero, lA _ _ (fun w => e w.2)]
      exact j3 c' hc'
  · rw [lendG_o (by decide)]
    exact cnt_congr (fun j _ => by rw [lendF_o (by decide), lendF_o (by decide)])
  · rw [lend4, lend5, lI _ _ _ (fun w => absurd w.1 (by decide)), lI _ _ _ (fun w => absurd w.1 (by decide)), lI _ _ _ (fun w => absurd w.1 (by decide)), lendF_o (s := 108) (by decide)]
    have := j6 v hv
    by_cases e : v = u
    · subst e
      rw [if_pos rfl, if_pos rfl]
      exact ⟨this.1, fun z => absurd z (by omega), fun _ => ⟨mR, i1.trans (u2_e : lendF F v c 109 v = F 108 v).symm, i2⟩⟩
    · rw [if_neg e, if_neg e, lR _ _ _ (fun w => by omega)]
      exact ⟨this.1, this.2.1, fun z => ⟨(this.2.2 z).1, (this.2.2 z).2.1.trans ((u2_j e : lendF F u c 109 v = _).trans rfl).symm, (this.2.2 z).2.2⟩⟩
  · exact lendG_o (by omega)
  · rw [lend19] at hl'
    rw [lend14, lK, lI _ _ _ (fun w => absurd w.1 (by decide)), lI _ _ _ (fun w => absurd w.1 (by decide)), lI _ _ _ (fun w => absurd w.1 (by decide))]
    by_cases e : l = g 19 0
    · subst e
      rw [if_pos rfl, u2_e]
      exact ⟨kq, mP, ⟨i0, hc⟩, Or.inl ⟨i2, rfl⟩⟩
    · rw [if_neg e, u2_j e, lP _ _ (fun w => e w.2)]
      exact j10 l (by omega)
  · rw [lendG_o (by decide)] at h1
    rw [lK, xk _ (by omega), xk _ (by omega)]; exact hZfr.1 f h1 h2
  · rw [lendG_o (by decide)] at h1
    rw [lK, xk _ (by omega)]; exact hZfr.2.1 j h1 h2
  · rw [lendG_o (by decide)] at h1
    rw [lK, xk _ (by omega)]; exact hZfr.2.2.1 j h1 h2
  · rw [lend19] at h1
    rw [lK, xk _ (by omega)]; exact hZfr.2.2.2 j (by omega) h2
  · unfold Zbd
    rw [lend19, lendG_o (by decide), lendG_o (by decide)]
    omega
