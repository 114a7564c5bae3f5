-- ===== a frame behind a shot =====
theorem CIu_fr {n : Nat} {Z : HS} {F A : FT} {g : GN} (h : CI n Z F g A) {f : Nat} (hf : f < g 16 0) {D : FT} {u' : Nat} {L : HS} (eD : ∀ s j, s ≠ 25 → ¬ phys s → ¬ (j = f ∧ (s = 113 ∨ s = 114 ∨ s = 116 ∨ s = 117)) → ¬ (s = 115 ∧ (j = 2 * f ∨ j = 2 * f + 1)) → ¬ (s = 118 ∧ 8 * f ≤ j ∧ j < 8 * f + 8) → D s j = F s j)
    (h114 : D 114 f = nI u' ∧ u' ≤ 1) (h116 : D 116 f = 0 ∨ D 116 f = 1) (h117 : D 117 f = -1 ∨ ∃ v, v < 8 ∧ D 117 f = nI v) (hBV : BV D f) (hDB : DB D f) (hwt : ¬ D 118 (8 * f) = -1)
    (hs : (D 113 f = nI 2 ∧ ¬ D 117 f = -1 ∧ g 23 f = 0) ∨ (D 113 f = nI 1 ∧ D 117 f = -1 ∧ g 23 f = 0 ∧ ¬ lowF D f = -1) ∨ (D 113 f = nI 0 ∧ D 117 f = -1 ∧ ¬ lowF D f = -1 ∧ 1 ≤ g 23 f ∧ g 23 f ≤ 4 ∧ g 1 (g 23 f - 1) = f + 1))
    (hK : xK L = xK Z) (hn : xn L = xn Z) (hR : xR L = xR Z) (hP : xP L = xP Z) (hI : xI L = xI (wF f (200000 + f) (1200000 + f) Z D)) (hA : ∀ a i, a ≠ 1800007 → xA L a i = xA (wF f (200000 + f) (1200000 + f) Z D) a i) (h7 : ∀ c, c < 8 → xA L 1800007 c = nI (wN D (g 16 0) c)) : CI n L D (u2 g 22 f u') A := by
  have h0 := h
  obtain ⟨hH, ⟨hPI, hPG, hZo⟩, ⟨hZh, hZd, hZw⟩, ⟨hZt, hZc, hZf⟩, ⟨hZr, hZs, hZl⟩, hZfr, hZbd⟩ := h0
  have f20 := hPI.1.2.2
  have dO : ∀ s j, (s < 22 ∨ (100 ≤ s ∧ s ≤ 112)) → D s j = F s j := fun s j q => eD s j (by omega) (by unfold phys; omega) (fun w => by omega) (fun w => by omega) (fun w => by omega)
  have dj : ∀ j s, j ≠ f → (s = 113 ∨ s = 114 ∨ s = 116 ∨ s = 117) → D s j = F s j := fun j s q r => eD s j (by omega) (by unfold phys; omega) (fun w => q w.1) (fun w => by omega) (fun w => by omega)
  have d5 : ∀ j, j ≠ 2 * f → j ≠ 2 * f + 1 → D 115 j = F 115 j := fun j q1 q2 => eD 115 j (by decide) (by decide) (fun w => by omega) (fun w => by omega) (fun w => by omega)
  have d8 : ∀ j, ¬ (8 * f ≤ j ∧ j < 8 * f + 8) → D 118 j = F 118 j := fun j q => eD 118 j (by decide) (by decide) (fun w => by omega) (fun w => by omega) (fun w => q w.2)
  have go : ∀ s j, s ≠ 22 → u2 g 22 f u' s j = g s j := fun s j q => u2n_s q
  have I2 : ∀ c k a, c ≠ 2 → xI L c k a = xI Z c k a := fun c k a q => by rw [hI, wF_Ic (Or.inl q)]
  have A2 : ∀ a i, a ≠ 1800007 → a ≠ 1200000 + f → xA L a i = xA Z a i := fun a i q1 q2 => by rw [hA a i q1, wF_Ax q2]
  have g22 : u2 g 22 f u' 22 f = u' := u2n_e
  have g2j : ∀ j, j ≠ f → u2 g 22 f u' 22 j = g 22 j := fun j q => u2n_j q
  generalize u2 g 22 f u' = G at *
  refine ⟨SH_t hH hK hn (fun c k a hc => by rw [hR]) (fun a i ha => by rw [hP]), ⟨⟨?_, fun i hi => ?_, fun v hv => ?_, fun v w hv hw => ?_, fun f' hf' => ?_, fun f' hf' => ?_⟩, PG_t hPG (fun s i hs => go _ _ (by omega)) (fun s j h1 h2 => go _ _ (by omega)) (fun s h1 h2 => go _ _ (by omega)) (fun i hi => go _ _ (by decide)) (fun j => dO _ _ (by omega)), fun c' hc' => ?_⟩, ⟨Zh_t hZh (fun k => I2 _ _ _ (by decide)) (dO _ _ (by omega)) (fun s h1 h2 => go _ _ (by omega)), Zd_t hZd (fun i => A2 _ _ (by decide) (by omega)) (owe_t (fun j => dO _ _ (by omega)) (fun j => dO _ _ (by omega))), fun c' hc' => ?_⟩, ⟨Zt_t hZt (fun k a => I2 _ _ _ (by decide)) (fun k a => by rw [hR]) (fun i _ => ⟨dO _ _ (by omega), dO _ _ (by omega)⟩) (fun j => dO _ _ (by omega)) (fun s hs i => go _ _ (by omega)), Zc_t hZc (fun k a => ⟨I2 _ _ _ (by decide), I2 _ _ _ (by decide)⟩) (fun k a => by rw [hR]) (fun u => ⟨dO _ _ (by omega), dO _ _ (by omega)⟩) (fun u => ⟨go _ _ (by decide), go _ _ (by decide)⟩), fun f' hf' => ?_⟩, ⟨Zr_t hZr (fun j _ => by rw [hK]) (fun k a => I2 _ _ _ (by decide)) (fun i => by rw [hP]) (fun j => rfl) (go _ _ (by decide)) (fun s j h1 h2 => go _ _ (by omega)), Zs_t hZs (fun j _ => by rw [hK]) (fun k a => I2 _ _ _ (by decide)) (fun i => by rw [hP]) (go _ _ (by decide)) (fun s j h1 h2 => go _ _ (by omega)), Zl_t hZl (fun j _ => by rw [hK]) (fun k a => I2 _ _ _ (by decide)) (fun i => by rw [hP]) (fun j => rfl) (go _ _ (by decide)) (fun j => go _ _ (by decide))⟩, Zfr_t hZfr (fun a => by rw [hK]) (fun s h1 h2 => go _ _ (by omega)), ?_⟩
  · rw [dO _ _ (by omega), dO _ _ (by omega), go _ _ (by decide), go _ _ (by decide)]; exact hPI.1
  · rw [dO 102 _ (by omega), dO 103 _ (by omega), dO 104 _ (by omega), dO 105 _ (by omega), go _ _ (by decide), go _ _ (by decide), go _ _ (by decide), go _ _ (by decide), go _ _ (by decide), go _ _ (by decide)]; exact hPI.2.1 i hi
  · rw [dO _ _ (by omega), dO _ _ (by omega), go _ _ (by decide)]; exact hPI.2.2.1 v hv
  · rw [go _ _ (by decide), go _ _ (by decide)]; exact hPI.2.2.2.1 v w hv hw
  · rw [go _ _ (by decide)] at hf'
    by_cases e : f' = f
    · subst e
      have q := hPI.2.2.2.2.1 f' hf'
      unfold FrP
      rw [dO 111 _ (by omega), dO 111 _ (by omega), dO 112 _ (by omega), go 20 _ (by decide), go 21 _ (by decide), go 23 _ (by decide), go 1 _ (by decide), g22]
      exact ⟨⟨q.1.1, q.1.2.1, q.1.2.2.1, h114, h116, h117⟩, ⟨hBV, hDB, hwt⟩, hs⟩
    · exact FrP_f (hPI.2.2.2.2.1 f' hf') (dO _ _ (by omega)) (dO _ _ (by omega)) (fun s h1 h2 h3 => by
        by_cases w : s = 112
        · rw [w]; exact dO _ _ (by omega)
        · exact dj _ _ e (by omega)) (fun k hk => d8 _ (by omega)) (fun s h1 h2 => by
        by_cases w : s = 22
        · rw [w]; exact g2j _ e
        · exact go _ _ w) (fun i => go _ _ (by decide))
  · rw [go _ _ (by decide)] at hf'
    have ne : f' ≠ f := by omega
    rw [dj _ _ ne (by omega), dj _ _ ne (by omega), dj _ _ ne (by omega), d5 _ (by omega) (by omega), d5 _ (by omega) (by omega)]
    exact hPI.2.2.2.2.2 f' hf'
  · rw [go 17 _ (by decide), go 19 _ (by decide), smR_c (g := g) (A := A) (fun j _ => ⟨go _ _ (by decide), go _ _ (by decide), rfl⟩), smL_c (g := g) (A := A) (fun l _ => ⟨go _ _ (by decide), rfl⟩), hZo c' hc', owe_t (F' := D) (F := F) (fun j => dO _ _ (by omega)) (fun j => dO _ _ (by omega))]
  · rw [go _ _ (by decide)]; exact h7 c' hc'
  · rw [go _ _ (by decide)] at hf'
    have := hZf f' hf'
    unfold FS at this ⊢
    rw [hK, hn, hR, hP, dO 111 _ (by omega), dO 111 _ (by omega), dO 112 _ (by omega), go 23 _ (by decide)]
    have ic : ∀ k, k < 4 → xI L 2 k (200000 + f') = xI Z 2 k (200000 + f') := fun k hk => by rw [hI, wF_Ic (by omega)]
    rw [ic 0 (by decide), ic 1 (by decide), ic 2 (by decide), ic 3 (by decide)]
    refine ⟨this.1, this.2.1, this.2.2.1, ⟨fun k h1 h2 => ?_, fun j hj => ?_⟩, this.2.2.2.2⟩
    · by_cases e : f' = f
      · rw [e, hI, wF_I ⟨h1, h2⟩]
      · rw [hI, wF_Ic (by omega), this.2.2.2.1.1 k h1 h2]
        have : k = 6 ∨ k = 7 ∨ k = 8 ∨ k = 9 ∨ k = 10 := by omega
        rcases this with rfl | rfl | rfl | rfl | rfl
        · exact (dj f' 114 e (by omega)).symm
        · exact (dj f' 116 e (by omega)).symm
        · exact (d5 (2 * f') (by omega) (by omega)).symm
        · exact (d5 (2 * f' + 1) (by omega) (by omega)).symm
        · exact (dj f' 117 e (by omega)).symm
    · rw [hA _ _ (by omega)]
      by_cases e : f' = f
      · rw [e, wF_A hj]
      · rw [wF_Ax (by omega), d8 _ (by omega)]
        exact this.2.2.2.1.2 j hj
  · unfold Zbd at hZbd ⊢
    rw [go _ _ (by decide), go _ _ (by decide), go _ _ (by decide)]
    exact hZbd
theorem CIu_wear {n : Nat} {Z : HS} {F A : FT} {g : GN} (h : CI n Z F g A) {u k : Nat} (hu : u < 6) (hk : k ≤ 100) : CI n (sI Z 1 0 (100000 + u) (nI k)) (u2 F 108 u (nI k)) g A := by
  have h0 := h
  obtain ⟨hH, ⟨hPI, hPG, hZo⟩, ⟨hZh, hZd, hZw⟩, ⟨hZt, hZc, hZf⟩, ⟨hZr, hZs, hZl⟩, hZfr, hZbd⟩ := h0
  have uo : ∀ s j, s ≠ 108 → u2 F 108 u (nI k) s j = F s j := fun s j q => u2_s q
  have lI : ∀ c k' a, ¬ (c = 1 ∧ k' = 0 ∧ a = 100000 + u) → xI (sI Z 1 0 (100000 + u) (nI k)) c k' a = xI Z c k' a := fun c k' a w => xI_sI w
  refine ⟨SH_t hH (by rw [xK_sI']) (by rw [xn_sI']) (fun c k a hc => by rw [xR_sI']) (fun a i ha => by rw [xP_sI']), ⟨⟨?_, fun i hi => ?_, fun v hv => ?_, hPI.2.2.2.1, fun f hf' => ?_, fun f hf' => ?_⟩, PG_t hPG (fun s i _ => rfl) (fun s j _ _ => rfl) (fun s _ _ => rfl) (fun i _ => rfl) (fun j => uo _ _ (by decide)), fun c' hc' => ?_⟩, ⟨Zh_t hZh (fun k => lI _ _ _ (fun w => absurd w.1 (by decide))) (uo _ _ (by decide)) (fun s h1 h2 => rfl), Zd_t hZd (fun i => by rw [xA_sI']) (owe_t (fun j => uo _ _ (by decide)) (fun j => uo _ _ (by decide))), Zw_t hZw (fun i => by rw [xA_sI']) (fun c' => cnt_congr (fun j _ => by rw [uo _ _ (by decide), uo _ _ (by decide)]))⟩, ⟨Zt_t hZt (fun k a => lI _ _ _ (fun w => absurd w.1 (by decide))) (fun k a => by rw [xR_sI']) (fun i _ => ⟨uo _ _ (by decide), uo _ _ (by decide)⟩) (fun j => uo _ _ (by decide)) (fun s hs i => rfl), fun v hv => ?_, Zf_t hZf hPI.1.2.2 (fun f hf => by rw [xK_sI', xn_sI']; exact ⟨rfl, rfl, rfl⟩) (fun k f _ => lI _ _ _ (fun w => absurd w.1 (by decide))) (fun k f _ => by rw [xR_sI']) (fun f j hf => by rw [xA_sI']) (fun f => by rw [xP_sI']) (fun s j h1 h2 => uo _ _ (by omega)) ⟨rfl, fun f => rfl⟩⟩, ⟨Zr_t hZr (fun j _ => by rw [xK_sI']) (fun k a => lI _ _ _ (fun w => absurd w.1 (by decide))) (fun i => by rw [xP_sI']) (fun j => rfl) rfl (fun s j h1 h2 => rfl), Zs_t hZs (fun j _ => by rw [xK_sI']) (fun k a => lI _ _ _ (fun w => absurd w.1 (by decide))) (fun i => by rw [xP_sI']) rfl (fun s j h1 h2 => rfl), Zl_t hZl (fun j _ => by rw [xK_sI']) (fun k a => lI _ _ _ (fun w => absurd w.1 (by decide))) (fun i => by rw [xP_sI']) (fun j => rfl) rfl (fun j => rfl)⟩, Zfr_t hZfr (fun a => by rw [xK_sI']) (fun s h1 h2 => rfl), hZbd⟩
  · rw [uo _ _ (by decide), uo _ _ (by decide)]; exact hPI.1
  · rw [uo 102 _ (by decide), uo 103 _ (by decide), uo 104 _ (by decide), uo 105 _ (by decide)]; exact hPI.2.1 i hi
  · rw [uo 107 _ (by decide)]
    refine ⟨(hPI.2.2.1 v hv).1, ?_⟩
    by_cases e : v = u
    · rw [e, u2_e]; exact ⟨k, hk, rfl⟩
    · rw [u2_j e]; exact (hPI.2.2.1 v hv).2
  · exact FrP_t (hPI.2.2.2.2.1 f hf') (fun s j h1 h2 => uo _ _ (by omega)) (fun s h1 h2 => rfl) (fun i => rfl)
  · rw [uo _ _ (by decide), uo _ _ (by decide), uo _ _ (by decide), uo _ _ (by decide), uo _ _ (by decide)]
    exact hPI.2.2.2.2.2 f hf'
  · rw [hZo c' hc', owe_t (F' := u2 F 108 u (nI k)) (F := F) (fun j => uo _ _ (by decide)) (fun j => uo _ _ (by decide))]
  · have := hZc v hv
    rw [lI 3 1 _ (fun w => absurd w.1 (by decide)), lI 3 2 _ (fun w => absurd w.1 (by decide)), xR_sI', uo 109 _ (by decide)]
    refine ⟨?_, this.2⟩
    by_cases e : v = u
    · rw [e, xI_sIe, u2_e]
    · rw [lI 1 0 _ (fun w => e (by omega)), u2_j e]
      exact this.1
