-- ===== rent: what it leaves =====
theorem owe_t {F F' : FT} (h1 : ∀ j, F' 106 j = F 106 j) (h2 : ∀ j, F' 107 j = F 107 j) (c : Nat) : owe F' c = owe F c := by
  unfold owe
  rw [h1, lastW_congr (p := fun k => F' 107 k = nI (c + 1)) (q := fun k => F 107 k = nI (c + 1)) (fun j _ => by rw [h2])]
def rnZ (Z : HS) (q t c m : Nat) : HS := sI (sI (sI (sI (nO Z q 5) 5 3 q (-1)) 5 0 q (nI t)) 5 1 q (nI c)) 5 2 q (nI m)
theorem rnZ_AG {Z : HS} {q t c m : Nat} (h : xK Z q = 99) : AG Z (rnZ Z q t c m) := (((((AG.refl Z).nX h).sI h).sI h).sI h).sI h
def rentZ (Z : HS) (m t c w : Nat) : HS := sI (sP (sI (sR (rnZ Z (500000 + m) t c w) 7 1 (700000 + t) (some (500000 + m))) 7 2 (700000 + t) (nI 0)) 1800003 m (some (500000 + m))) 8 11 800000 (nI (m + 1))
theorem rF_rent {Z : HS} {m t c w : Nat} (hm : m < 1000) : rF (rentZ Z m t c w) = rF Z := by
  unfold rentZ rnZ nO
  rw [rF_sI (by decide), rF_sP, rF_sI (by decide), rF_sR, rF_sI (by decide), rF_sI (by decide), rF_sI (by decide), rF_sI (by decide), rF_nX (by omega) (by omega)]
def rentF (F : FT) (t c : Nat) : FT := u2 (u2 (thr (thr F (nI 0)) (nI 0)) 103 t (nI (c + 1))) 105 t (nI 0)
theorem rentF_o {F : FT} {t c s j : Nat} (h : s ≠ 25 ∧ s ≠ 103 ∧ s ≠ 105) : rentF F t c s j = F s j := by
  unfold rentF thr
  rw [u2_s h.2.2, u2_s h.2.1, u2_s h.1, u2_s h.1]
theorem rent103 {F : FT} {t c k : Nat} : rentF F t c 103 k = if k = t then nI (c + 1) else F 103 k := by
  unfold rentF thr
  rw [u2_s (by decide)]
  by_cases e : k = t
  · rw [if_pos e, e, u2_e]
  · rw [if_neg e, u2_j e, u2_s (by decide), u2_s (by decide)]
theorem rent105 {F : FT} {t c k : Nat} : rentF F t c 105 k = if k = t then nI 0 else F 105 k := by
  unfold rentF thr
  by_cases e : k = t
  · rw [if_pos e, e, u2_e]
  · rw [if_neg e, u2_j e, u2_s (by decide), u2_s (by decide), u2_s (by decide)]
def rentG (g : GN) (t c : Nat) : GN := fun s j => if s = 0 ∧ j = t then c + 1 else if s = 2 ∧ j = t then g 17 0 else if s = 24 ∧ j = t then 0 else if s = 6 ∧ j = g 17 0 then t else if s = 7 ∧ j = g 17 0 then c else if s = 8 ∧ j = g 17 0 then g 15 0 else if s = 9 ∧ j = g 17 0 then 20000 else if s = 17 ∧ j = 0 then g 17 0 + 1 else g s j
theorem rG_o {g : GN} {t c s j : Nat} (h : s ≠ 0 ∧ s ≠ 2 ∧ s ≠ 24 ∧ s ≠ 6 ∧ s ≠ 7 ∧ s ≠ 8 ∧ s ≠ 9 ∧ s ≠ 17) : rentG g t c s j = g s j := by
  unfold rentG
  rw [if_neg (by omega), if_neg (by omega), if_neg (by omega), if_neg (by omega), if_neg (by omega), if_neg (by omega), if_neg (by omega), if_neg (by omega)]
theorem rG_t {g : GN} {t c s j : Nat} (h : j ≠ t ∧ (s = 0 ∨ s = 2 ∨ s = 24)) : rentG g t c s j = g s j := by
  unfold rentG
  rw [if_neg (by omega), if_neg (by omega), if_neg (by omega), if_neg (by omega), if_neg (by omega), if_neg (by omega), if_neg (by omega), if_neg (by omega)]
theorem rG_r {g : GN} {t c s j : Nat} (h : j ≠ g 17 0 ∧ 6 ≤ s ∧ s ≤ 9) : rentG g t c s j = g s j := by
  unfold rentG
  rw [if_neg (by omega), if_neg (by omega), if_neg (by omega), if_neg (by omega), if_neg (by omega), if_neg (by omega), if_neg (by omega), if_neg (by omega)]
theorem rG_0 {g : GN} {t c : Nat} : rentG g t c 0 t = c + 1 := if_pos ⟨rfl, rfl⟩
theorem rG_2 {g : GN} {t c : Nat} : rentG g t c 2 t = g 17 0 := by
  unfold rentG
  rw [if_neg (by omega), if_pos ⟨rfl, rfl⟩]
theorem rG_24 {g : GN} {t c : Nat} : rentG g t c 24 t = 0 := by
  unfold rentG
  rw [if_neg (by omega), if_neg (by omega), if_pos ⟨rfl, rfl⟩]
theorem rG_6 {g : GN} {t c : Nat} : rentG g t c 6 (g 17 0) = t := by
  unfold rentG
  rw [if_neg (by omega), if_neg (by omega), if_neg (by omega), if_pos ⟨rfl, rfl⟩]
theorem rG_7 {g : GN} {t c : Nat} : rentG g t c 7 (g 17 0) = c := by
  unfold rentG
  rw [if_neg (by omega), if_neg (by omega), if_neg (by omega), if_neg (by omega), if_pos ⟨rfl, rfl⟩]
theorem rG_8 {g : GN} {t c : Nat} : rentG g t c 8 (g 17 0) = g 15 0 := by
  unfold rentG
  rw [if_neg (by omega), if_neg (by omega), if_neg (by omega), if_neg (by omega), if_neg (by omega), if_pos ⟨rfl, rfl⟩]
theorem rG_9 {g : GN} {t c : Nat} : rentG g t c 9 (g 17 0) = 20000 := by
  unfold rentG
  rw [if_neg (by omega), if_neg (by omega), if_neg (by omega), if_neg (by omega), if_neg (by omega), if_neg (by omega), if_pos ⟨rfl, rfl⟩]
theorem rG_17 {g : GN} {t c : Nat} : rentG g t c 17 0 = g 17 0 + 1 := by
  unfold rentG
  rw [if_neg (by omega), if_neg (by omega), if_neg (by omega), if_neg (by omega), if_neg (by omega), if_neg (by omega), if_neg (by omega), if_pos ⟨rfl, rfl⟩]
theorem lmS_z {g : GN} {i a : Nat} : ∀ {m : Nat}, lmS g i a a m = 0
  | 0 => rfl
  | m + 1 => by
    show lmS g i a a m + (if g 11 m = i then min (g 13 m) a - max (g 12 m) a else 0) = 0
    rw [lmS_z]
    split <;> omega
theorem CIu_rent {n : Nat} {Z : HS} {F A : FT} {g : GN} (h : CI n Z F g A) (hn : n < 512) {t c : Nat} (ht : t < 4) (hc : c < 8) (hl : g 0 t = 0) : CI (n + 1) (rentZ Z (g 17 0) t c (g 15 0)) (rentF F t c) (rentG g t c) A := by
  have h0 := h
  obtain ⟨hH, ⟨hPI, hPG, hZo⟩, ⟨hZh, hZd, hZw⟩, ⟨hZt, hZc, hZf⟩, ⟨hZr, hZs, hZl⟩, hZfr, hZbd⟩ := h0
  have hb := hZbd
  unfold Zbd at hb
  have q99 := hZfr.2.1 (g 17 0) (Nat.le_refl _) (by omega)
  obtain ⟨j1, ⟨j2, j3, j4⟩, ⟨j5, j6, j7⟩, ⟨j8, j9, j10⟩⟩ := agCJ (rnZ_AG (t := t) (c := c) (m := g 15 0) q99) h
  have kq : xK (rnZ Z (500000 + g 17 0) t c (g 15 0)) (500000 + g 17 0) = 5 := va_up_self _ _ _
  have i3 : xI (rnZ Z (500000 + g 17 0) t c (g 15 0)) 5 3 (500000 + g 17 0) = -1 := if_pos ⟨rfl, rfl, rfl⟩
  have i0 : xI (rnZ Z (500000 + g 17 0) t c (g 15 0)) 5 0 (500000 + g 17 0) = nI t := if_pos ⟨rfl, rfl, rfl⟩
  have i1 : xI (rnZ Z (500000 + g 17 0) t c (g 15 0)) 5 1 (500000 + g 17 0) = nI c := if_pos ⟨rfl, rfl, rfl⟩
  have i2 : xI (rnZ Z (500000 + g 17 0) t c (g 15 0)) 5 2 (500000 + g 17 0) = nI (g 15 0) := if_pos ⟨rfl, rfl, rfl⟩
  have xk : ∀ a, a ≠ (500000 + g 17 0) → xK (rnZ Z (500000 + g 17 0) t c (g 15 0)) a = xK Z a := fun a ha => va_up_ne _ _ ha
  unfold rentZ
  generalize rnZ Z (500000 + g 17 0) t c (g 15 0) = N at *
  have lI : ∀ c9 k9 a9, ¬ (c9 = 7 ∧ k9 = 2 ∧ a9 = (700000 + t)) → ¬ (c9 = 8 ∧ k9 = 11 ∧ a9 = 800000) → xI (sI (sP (sI (sR N 7 1 (700000 + t) (some (500000 + g 17 0))) 7 2 (700000 + t) (nI 0)) 1800003 (g 17 0) (some (500000 + g 17 0))) 8 11 800000 (nI (g 17 0 + 1))) c9 k9 a9 = xI N c9 k9 a9 := fun c9 k9 a9 w0 w1 => by rw [xI_sI w1, xI_sP', xI_sI w0, xI_sR']
  have mI0 : xI (sI (sP (sI (sR N 7 1 (700000 + t) (some (500000 + g 17 0))) 7 2 (700000 + t) (nI 0)) 1800003 (g 17 0) (some (500000 + g 17 0))) 8 11 800000 (nI (g 17 0 + 1))) 7 2 (700000 + t) = (nI 0) := by rw [xI_sI (by first | decide | omega), xI_sP', xI_sIe]
  have mI1 : xI (sI (sP (sI (sR N 7 1 (700000 + t) (some (500000 + g 17 0))) 7 2 (700000 + t) (nI 0)) 1800003 (g 17 0) (some (500000 + g 17 0))) 8 11 800000 (nI (g 17 0 + 1))) 8 11 800000 = (nI (g 17 0 + 1)) := by rw [xI_sIe]
  have lR : ∀ c9 k9 a9, ¬ (c9 = 7 ∧ k9 = 1 ∧ a9 = (700000 + t)) → xR (sI (sP (sI (sR N 7 1 (700000 + t) (some (500000 + g 17 0))) 7 2 (700000 + t) (nI 0)) 1800003 (g 17 0) (some (500000 + g 17 0))) 8 11 800000 (nI (g 17 0 + 1))) c9 k9 a9 = xR N c9 k9 a9 := fun c9 k9 a9 w0 => by rw [xR_sI', xR_sP', xR_sI', xR_sR w0]
  have mR0 : xR (sI (sP (sI (sR N 7 1 (700000 + t) (some (500000 + g 17 0))) 7 2 (700000 + t) (nI 0)) 1800003 (g 17 0) (some (500000 + g 17 0))) 8 11 800000 (nI (g 17 0 + 1))) 7 1 (700000 + t) = (some (500000 + g 17 0)) := by rw [xR_sI', xR_sP', xR_sI', xR_sRe]
  have lA : xA (sI (sP (sI (sR N 7 1 (700000 + t) (some (500000 + g 17 0))) 7 2 (700000 + t) (nI 0)) 1800003 (g 17 0) (some (500000 + g 17 0))) 8 11 800000 (nI (g 17 0 + 1))) = xA N := by rw [xA_sI', xA_sP', xA_sI', xA_sR']
  have lP : ∀ a9 i9, ¬ (a9 = 1800003 ∧ i9 = (g 17 0)) → xP (sI (sP (sI (sR N 7 1 (700000 + t) (some (500000 + g 17 0))) 7 2 (700000 + t) (nI 0)) 1800003 (g 17 0) (some (500000 + g 17 0))) 8 11 800000 (nI (g 17 0 + 1))) a9 i9 = xP N a9 i9 := fun a9 i9 w0 => by rw [xP_sI', xP_sP w0, xP_sI', xP_sR']
  have mP0 : xP (sI (sP (sI (sR N 7 1 (700000 + t) (some (500000 + g 17 0))) 7 2 (700000 + t) (nI 0)) 1800003 (g 17 0) (some (500000 + g 17 0))) 8 11 800000 (nI (g 17 0 + 1))) 1800003 (g 17 0) = (some (500000 + g 17 0)) := by rw [xP_sI', xP_sPe]
  have lJ : xJ (sI (sP (sI (sR N 7 1 (700000 + t) (some (500000 + g 17 0))) 7 2 (700000 + t) (nI 0)) 1800003 (g 17 0) (some (500000 + g 17 0))) 8 11 800000 (nI (g 17 0 + 1))) = xJ N := by rw [xJ_sI', xJ_sP', xJ_sI', xJ_sR']
  have lK : xK (sI (sP (sI (sR N 7 1 (700000 + t) (some (500000 + g 17 0))) 7 2 (700000 + t) (nI 0)) 1800003 (g 17 0) (some (500000 + g 17 0))) 8 11 800000 (nI (g 17 0 + 1))) = xK N := by rw [xK_sI', xK_sP', xK_sI', xK_sR']
  have lN : xn (sI (sP (sI (sR N 7 1 (700000 + t) (some (500000 + g 17 0))) 7 2 (700000 + t) (nI 0)) 1800003 (g 17 0) (some (500000 + g 17 0))) 8 11 800000 (nI (g 17 0 + 1))) = xn N := by rw [xn_sI', xn_sP', xn_sI', xn_sR']
  generalize sI (sP (sI (sR N 7 1 (700000 + t) (some (500000 + g 17 0))) 7 2 (700000 + t) (nI 0)) 1800003 (g 17 0) (some (500000 + g 17 0))) 8 11 800000 (nI (g 17 0 + 1)) = L at *
  have e24 : g 24 t = 0 := (hPI.2.1 t ht).2.2.2.2.1 hl
  have lmE : ∀ i st en m, lmS (rentG g t c) i st en m = lmS g i st en m := fun i st en m => lmS_c (fun s _ => ⟨rG_o (by decide), rG_o (by decide), rG_o (by decide)⟩)
  refine ⟨SH_t j1 lK lN (fun c k a hc => lR _ _ _ (fun w => by omega)) (fun a i ha => lP _ _ (fun w => by omega)), ⟨⟨?_, fun i hi => ?_, fun v hv => ?_, fun v w hv hw => ?_, fun f hf => ?_, fun f hf => ?_⟩, ⟨fun j hj => ?_, fun i hi hz => ?_, fun s hs => ?_, fun i hi => ?_, fun v hv => ?_⟩, fun c' hc' => ?_⟩, ⟨⟨⟨?_, ?_⟩, ?_, ?_⟩, Zd_t j3 (fun i => by rw [lA]) (fun c' => ?_), Zw_t j4 (fun i => by rw [lA]) (fun c' => ?_)⟩, ⟨fun i hi => ?_, Zc_t j6 (fun k a => ⟨lI _ _ _  (fun w => absurd w.1 (by decide)) (fun w => absurd w.1 (by decide)), lI _ _ _  (fun w => absurd w.1 (by decide)) (fun w => absurd w.1 (by decide))⟩) (fun k a => lR _ _ _  (fun w => absurd w.1 (by decide))) (fun u => ⟨rentF_o (by decide), rentF_o (by decide)⟩) (fun u => ⟨rG_o (by decide), rG_o (by decide)⟩), Zf_t j7 hPI.1.2.2 (fun f hf => by rw [lK, lN]; exact ⟨rfl, rfl, rfl⟩) (fun k f _ => lI _ _ _  (fun w => absurd w.1 (by decide)) (fun w => absurd w.1 (by decide))) (fun k f _ => lR _ _ _  (fun w => absurd w.1 (by decide))) (fun f j hf => by rw [lA]) (fun f => lP _ _  (fun w => absurd w.1 (by decide))) (fun s j h1 h2 => rentF_o (by omega)) ⟨rG_o (by decide), fun f => rG_o (by decide)⟩⟩, ⟨fun j hj => ?_, Zs_t j9 (fun j _ => by rw [lK]) (fun k a => lI _ _ _  (fun w => absurd w.1 (by decide)) (fun w => absurd w.1 (by decide))) (fun i => lP _ _  (fun w => absurd w.1 (by decide))) (rG_o (by decide)) (fun s j h1 h2 => rG_o (by omega)), Zl_t j10 (fun j _ => by rw [lK]) (fun k a => lI _ _ _  (fun w => absurd w.1 (by decide)) (fun w => absurd w.1 (by decide))) (fun i => lP _ _  (fun w => absurd w.1 (by decide))) (fun j => rfl) (rG_o (by decide)) (fun j => rG_o (by decide))⟩, ⟨fun f h1 h2 => ?_, fun j h1 h2 => ?_, fun j h1 h2 => ?_, fun j h1 h2 => ?_⟩, ?_⟩
  · rw [rentF_o (by decide), rentF_o (by decide), rG_o (by decide), rG_o (by decide)]; exact hPI.1
  · rw [rentF_o (by decide), rent103, rentF_o (by decide), rent105, rG_o (s := 1) (by decide), rG_o (s := 16) (by decide), rG_o (s := 15) (by decide), rG_o (s := 23) (by decide)]
    by_cases e : i = t
    · subst e
      rw [if_pos rfl, if_pos rfl, rG_0, rG_24]
      have := hPI.2.1 i hi
      exact ⟨this.1, ⟨rfl, by omega⟩, this.2.2.1, ⟨rfl, Nat.zero_le _⟩, fun q => absurd q (by omega), this.2.2.2.2.2⟩
    · rw [if_neg e, if_neg e, rG_t ⟨e, Or.inl rfl⟩, rG_t ⟨e, Or.inr (Or.inr rfl)⟩]
      exact hPI.2.1 i hi
  · rw [rentF_o (by decide), rentF_o (by decide), rG_o (by decide)]; exact hPI.2.2.1 v hv
  · rw [rG_o (by decide), rG_o (by decide)]; exact hPI.2.2.2.1 v w hv hw
  · rw [rG_o (by decide)] at hf
    exact FrP_t (hPI.2.2.2.2.1 f hf) (fun s j h1 h2 => rentF_o (by omega)) (fun s h1 h2 => rG_o (by omega)) (fun i => rG_o (by decide))
  · rw [rG_o (by decide)] at hf
    rw [rentF_o (by decide), rentF_o (by decide), rentF_o (by decide), rentF_o (by decide), rentF_o (by decide)]
    exact hPI.2.2.2.2.2 f hf
  · rw [rG_17] at hj
    rw [lmE, rG_o (s := 15) (by decide), rG_o (s := 18) (by decide), rG_o (s := 10) (by decide)]
    by_cases e : j = g 17 0
    · subst e
      rw [rG_6, rG_7, rG_8, rG_9]
      exact ⟨ht, hc, Nat.le_refl _, fun q => absurd rfl q⟩
    · rw [rG_r ⟨e, by decide, by decide⟩, rG_r ⟨e, by decide, by decide⟩, rG_r ⟨e, by decide, by decide⟩, rG_r ⟨e, by decide, by decide⟩]
      exact hPG.1 j (by omega)
  · rw [lmE, rG_o (s := 15) (by decide), rG_o (s := 18) (by decide), rG_17]
    by_cases e : i = t
    · subst e
      rw [rG_2, rG_6, rG_7, rG_8, rG_9, rG_0, rG_24, lmS_z]
      exact ⟨Nat.lt_succ_self _, rfl, rfl, rfl, by omega⟩
    · rw [rG_t ⟨e, Or.inl rfl⟩] at hz
      have := hPG.2.1 i hi hz
      have ne : g 2 i ≠ g 17 0 := by omega
      rw [rG_t ⟨e, Or.inr (Or.inl rfl)⟩, rG_t (s := 0) ⟨e, Or.inl rfl⟩, rG_t ⟨e, Or.inr (Or.inr rfl)⟩, rG_r ⟨ne, by decide, by decide⟩, rG_r ⟨ne, by decide, by decide⟩, rG_r ⟨ne, by decide, by decide⟩, rG_r ⟨ne, by decide, by decide⟩]
      exact ⟨by omega, this.2⟩
  · rw [rG_o (s := 18) (by decide)] at hs
    have := hPG.2.2.1 s hs
    unfold leag at this ⊢
    rw [rG_o (s := 12) (by decide), rG_o (s := 13) (by decide), rG_o (s := 11) (by decide), rG_o (s := 15) (by decide), rG_o (s := 1) (by decide), rG_o (s := 3) (by decide), rentF_o (by decide)]
    exact this
  · have := hPG.2.2.2.1 i hi
    unfold leag at this ⊢
    rw [rG_o (s := 1) (by decide), rG_o (s := 3) (by decide), rentF_o (by decide), rG_o (s := 18) (by decide), rG_o (s := 13) (by decide), rG_o (s := 11) (by decide)]
    exact this
  · rw [rG_o (s := 4) (by decide), rG_o (s := 5) (by decide), rG_o (s := 19) (by decide), rG_o (s := 14) (by decide)]
    exact hPG.2.2.2.2 v hv
  · rw [rG_17, rG_o (s := 19) (by decide)]
    show smR (rentG g t c) A c' (g 17 0) + (if rentG g t c 7 (g 17 0) = c' ∧ rentG g t c 9 (g 17 0) ≠ 20000 then A 0 (g 17 0) else 0) + _ = _
    rw [rG_9, if_neg (fun q => q.2 rfl), Int32.add_zero, smR_c (g := g) (A := A) (fun j hj => ⟨rG_r ⟨by omega, by decide, by decide⟩, rG_r ⟨by omega, by decide, by decide⟩, rfl⟩), smL_c (g := g) (A := A) (fun l _ => ⟨rG_o (by decide), rfl⟩), hZo c' hc', owe_t (F' := rentF F t c) (F := F) (fun j => rentF_o (by decide)) (fun j => rentF_o (by decide))]
  · rw [lI _ _ _ (by omega) (by decide), rG_o (by decide)]; exact j2.1.1
  · rw [mI1, rG_17]
  · rw [lI _ _ _ (by omega) (by decide), lI _ _ _ (by omega) (by decide), rG_o (by decide), rG_o (by decide)]; exact j2.2.1
  · rw [lI _ _ _ (by omega) (by decide), lI _ _ _ (by omega) (by decide), rentF_o (by decide), rG_o (by decide)]; exact j2.2.2
  · exact owe_t (fun j => rentF_o (by decide)) (fun j => rentF_o (by decide)) c'
  · rw [rG_o (by decide)]
    exact cnt_congr (fun j _ => by rw [rentF_o (by decide), rentF_o (by decide)])
  · have := j5 i hi
    unfold leag at this ⊢
    rw [lI 7 0 _ (fun w => absurd w.2.1 (by decide))  (fun w => absurd w.1 (by decide)), lR 7 3 _ (fun w => absurd w.2.1 (by decide)), lR 7 4 _ (fun w => absurd w.2.1 (by decide)), b2_eq (q := F 102 i = 0) (by rw [rentF_o (by decide)]), rG_o (s := 1) (by decide), rG_o (s := 3) (by decide), rentF_o (s := 112) (by decide), rent105]
    by_cases e : i = t
    · subst e
      rw [rG_0, rG_2, mR0, if_pos rfl, mI0]
      exact ⟨this.1, fun q => absurd q (by omega), fun _ => ⟨rfl, rfl⟩, this.2.2.2⟩
    · rw [rG_t ⟨e, Or.inl rfl⟩, rG_t ⟨e, Or.inr (Or.inl rfl)⟩, lR 7 1 _ (fun w => by omega), lI 7 2 _ (fun w => by omega)  (fun w => absurd w.1 (by decide)), if_neg e]
      exact this
  · rw [rG_17] at hj
    rw [lK, rG_o (s := 10) (by decide), lI _ _ _  (fun w => absurd w.1 (by decide)) (fun w => absurd w.1 (by decide)), lI _ _ _  (fun w => absurd w.1 (by decide)) (fun w => absurd w.1 (by decide)), lI _ _ _  (fun w => absurd w.1 (by decide)) (fun w => absurd w.1 (by decide)), lI _ _ _  (fun w => absurd w.1 (by decide)) (fun w => absurd w.1 (by decide)), lI _ _ _  (fun w => absurd w.1 (by decide)) (fun w => absurd w.1 (by decide))]
    by_cases e : j = g 17 0
    · subst e
      rw [rG_6, rG_7, rG_8, rG_9, if_pos rfl]
      exact ⟨kq, mP0, ⟨i0, i1, i2⟩, i3, fun q => absurd rfl q⟩
    · rw [rG_r ⟨e, by decide, by decide⟩, rG_r ⟨e, by decide, by decide⟩, rG_r ⟨e, by decide, by decide⟩, rG_r ⟨e, by decide, by decide⟩, lP _ _ (fun w => e w.2)]
      exact j8 j (by omega)
  · rw [rG_o (by decide)] at h1
    rw [lK, xk _ (by omega), xk _ (by omega)]; exact hZfr.1 f h1 h2
  · rw [rG_17] at h1
    rw [lK, xk _ (by omega)]; exact hZfr.2.1 j (by omega) h2
  · rw [rG_o (by decide)] at h1
    rw [lK, xk _ (by omega)]; exact hZfr.2.2.1 j h1 h2
  · rw [rG_o (by decide)] at h1
    rw [lK, xk _ (by omega)]; exact hZfr.2.2.2 j h1 h2
  · unfold Zbd
    rw [rG_17, rG_o (by decide), rG_o (by decide)]
    omega
theorem C_rbN {Γ : GTy} {Z : HS} {q : Nat} {x : Int32} (hk : xK Z q = 7) (hl : xR Z 7 1 q = none) : Tn Γ M_X8_isRentedBy [.ref q, .int x] Z (rt (some (.int (nI 0))) Z) := by
  refine Tn_of' rfl rfl rfl ?_
  show G Γ M_X8_isRentedBy (rm M_X8_isRentedBy) (Vn Γ M_X8_isRentedBy (rt (some (.int (nI 0))) Z)) (0, 0) 0 [some (.ref q), some (.int x)] [] Z
  refine G_aload_n (pc := 0) dX8_isRentedBy_0 rfl ?_
  refine G_getN (pc := 1) fl_X8_13 hk rfl hl dX8_isRentedBy_1 ?_
  refine G_ifnull_n (pc := 4) (tgt := 22) dX8_isRentedBy_4 (by decide) ?_
  refine G_iconst (pc := 22) (v := nI 0) dX8_isRentedBy_22 (by first | rfl | decide) ?_
  refine G_zret (pc := 23) VZ.n dX8_isRentedBy_23 rfl (Or.inl rfl) ⟨by decide, by decide⟩ ?_
  exact ⟨rfl, rfl⟩
theorem C_rbS {Γ : GTy} {Z : HS} {q l b c : Nat} (hk : xK Z q = 7) (hl : xR Z 7 1 q = some l) (hk3 : xK Z l = 5) (hb : xI Z 5 1 l = nI b) (b1 : b < 100) (c1 : c < 100) : Tn Γ M_X8_isRentedBy [.ref q, .int (nI c)] Z (rt (some (.int (b2 (b = c)))) Z) := by
  refine Tn_of' rfl rfl rfl ?_
  show G Γ M_X8_isRentedBy (rm M_X8_isRentedBy) (Vn Γ M_X8_isRentedBy (rt (some (.int (b2 (b = c)))) Z)) (0, 0) 0 [some (.ref q), some (.int (nI c))] [] Z
  refine G_aload_n (pc := 0) dX8_isRentedBy_0 rfl ?_
  refine G_getS (pc := 1) fl_X8_13 hk rfl hl dX8_isRentedBy_1 ?_
  refine G_ifnull_r (pc := 4) dX8_isRentedBy_4 ?_
  refine G_aload_n (pc := 7) dX8_isRentedBy_7 rfl ?_
  refine G_getS (pc := 8) fl_X8_13 hk rfl hl dX8_isRentedBy_8 ?_
  refine G_getIv (pc := 11) (c := 5) (i := 1) (v := nI b) hb fl_X8_17 hk3 rfl dX8_isRentedBy_11 ?_
  refine G_iload_n (pc := 14) dX8_isRentedBy_14 rfl ?_
  refine G_icmp_neN (pc := 15) (tgt := 22) (by omega) (by omega) dX8_isRentedBy_15 (by decide) (fun c15 => ?_) (fun c15 => ?_)
  · skip
    have e9 := b2_f (p := b = c) c15
    refine G_iconst (pc := 22) (v := nI 0) dX8_isRentedBy_22 (by first | rfl | decide) ?_
    refine G_zret (pc := 23) VZ.n dX8_isRentedBy_23 rfl (Or.inl rfl) ⟨by decide, by decide⟩ ?_
    exact ⟨congrArg (fun z => some (Value.int z)) e9.symm, rfl⟩
  · skip
    have e9 := b2_t (p := b = c) c15
    refine G_iconst (pc := 18) (v := nI 1) dX8_isRentedBy_18 (by first | rfl | decide) ?_
    refine G_goto (pc := 19) (tgt := 23) dX8_isRentedBy_19 (by decide) ?_
    refine G_zret (pc := 23) VZ.n dX8_isRentedBy_23 rfl (Or.inr rfl) ⟨by decide, by decide⟩ ?_
    exact ⟨congrArg (fun z => some (Value.int z)) e9.symm, rfl⟩
theorem C_rented {Γ : GTy} {n : Nat} {Z : HS} {F A : FT} {g : GN} (h : CI n Z F g A) {i c : Nat} (hi : i < 4) (hc : c < 8) : Tn Γ M_X8_isRentedBy [.ref (700000 + i), .int (nI c)] Z (rt (some (.int (b2 (F 103 i = nI (c + 1))))) Z) := by
  have h0 := h
  obtain ⟨hH, ⟨hPI, hPG, hZo⟩, ⟨hZh, hZd, hZw⟩, ⟨hZt, hZc, hZf⟩, ⟨hZr, hZs, hZl⟩, hZfr, hZbd⟩ := h0
  have hk := (hH.2.2.1 i hi).1
  have e := (hPI.2.1 i hi).2.1
  by_cases z : g 0 i = 0
  · have h9 := C_rbN (Γ := Γ) (x := nI c) hk ((hZt i hi).2.1 z)
    rw [b2_f (by rw [e.1, z]; exact fun w => by have := (nI_eq (by omega) (by omega)).mp w; omega)]
    exact h9
  · obtain ⟨l1, l2, l3, -⟩ := hPG.2.1 i hi z
    obtain ⟨k3, -, b3, -⟩ := hZr _ l1
    have h9 := C_rbS (Γ := Γ) (c := c) hk ((hZt i hi).2.2.1 z).1 k3 b3.2.1 (by omega) (by omega)
    rw [b2_eq (q := F 103 i = nI (c + 1)) (by rw [e.1, nI_eq (by omega) (by omega)]; omega)] at h9
    exact h9
theorem C_rentsAny {Γ : GTy} {Z : HS} {n : Nat} {F A : FT} {g : GN} (h : CI n Z F g A) {c : Nat} (hc : c < 8) : Tn Γ M_X9_rentsAny [.ref 800000, .int (nI c)] Z (rt (some (.int (b2 (anyB (fun k => F 103 k = nI (c + 1)) 4 = true)))) Z) := by
  refine Tn_of' rfl rfl rfl ?_
  show G Γ M_X9_rentsAny (rm M_X9_rentsAny) (Vn Γ M_X9_rentsAny (rt (some (.int (b2 (anyB (fun k => F 103 k = nI (c + 1)) 4 = true)))) Z)) (0, 0) 0 [some (.ref 800000), some (.int (nI c)), none, none, none, none] [] Z
  have h0 := h
  obtain ⟨hH, ⟨hPI, hPG, hZo⟩, ⟨hZh, hZd, hZw⟩, ⟨hZt, hZc, hZf⟩, ⟨hZr, hZs, hZl⟩, hZfr, hZbd⟩ := h0
  have loop : ∀ (n9 j : Nat) (v5 : Option Value), j + n9 = 4 → (∀ i, i < j → ¬ F 103 i = nI (c + 1)) → G Γ M_X9_rentsAny (rm M_X9_rentsAny) (Vn Γ M_X9_rentsAny (rt (some (.int (b2 (anyB (fun k => F 103 k = nI (c + 1)) 4 = true)))) Z)) (0, 0) 11 [some (.ref 800000), some (.int (nI c)), some (.ref 1800000), some (.int (nI 4)), some (.int (nI j)), v5] [] Z := by
    intro n9
    induction n9 with
    | zero =>
      intro j v5 hj hq9
      obtain rfl : j = 4 := by omega
      refine G_iload (pc := 11) dX9_rentsAny_11 rfl ?_
      refine G_iload_n (pc := 13) dX9_rentsAny_13 rfl ?_
      refine G_icmp_geN (pc := 14) (tgt := 45) (by omega) (by omega) dX9_rentsAny_14 (by decide) (fun c14 => ?_) (fun c14 => ?_)
      · skip
        refine G_iconst (pc := 45) (v := nI 0) dX9_rentsAny_45 (by first | rfl | decide) ?_
        refine G_zret (pc := 46) VZ.n dX9_rentsAny_46 rfl (Or.inl rfl) ⟨by decide, by decide⟩ ?_
        exact ⟨congrArg (fun z => some (Value.int z)) (b2_f (fun q => by obtain ⟨i, g1, g2⟩ := (anyB_iff (p := (fun k => F 103 k = nI (c + 1))) 4).mp q; exact hq9 i g1 g2)).symm, rfl⟩
      · omega
    | succ n9 ih =>
      intro j v5 hj hq9
      have hj9 : j < 4 := by omega
      refine G_iload (pc := 11) dX9_rentsAny_11 rfl ?_
      refine G_iload_n (pc := 13) dX9_rentsAny_13 rfl ?_
      refine G_icmp_geN (pc := 14) (tgt := 45) (by omega) (by omega) dX9_rentsAny_14 (by decide) (fun c14 => ?_) (fun c14 => ?_)
      · omega
      · skip
        refine G_aload_n (pc := 17) dX9_rentsAny_17 rfl ?_
        refine G_iload (pc := 18) dX9_rentsAny_18 rfl ?_
        refine G_aaldS (pc := 20) (j := j) (sh_c0 hH) (by decide) rfl (Nat.lt_of_lt_of_eq hj9 (sh_n0 hH).symm) (by omega) (hH.2.2.1 j hj9).2 dX9_rentsAny_20 ?_
        refine G_astore (pc := 21) dX9_rentsAny_21 (by decide) ?_
        refine G_aload (pc := 23) dX9_rentsAny_23 rfl ?_
        refine G_ifnull_r (pc := 25) dX9_rentsAny_25 ?_
        refine G_aload (pc := 28) dX9_rentsAny_28 rfl ?_
        refine G_iload_n (pc := 30) dX9_rentsAny_30 rfl ?_
        refine K_Vn1r (pc := 31) (k' := (0, 0)) mok_X8_isRentedBy lk_X9_307 (hH.2.2.1 j hj9).1 rfl rfl rfl (aok0 rfl) dX9_rentsAny_31 (C_rented h hj9 hc) rfl ?_
        refine G_if_eqB (pc := 34) (tgt := 39) dX9_rentsAny_34 (by decide) (fun c34 => ?_) (fun c34 => ?_)
        · skip
          refine G_iincN (pc := 39) dX9_rentsAny_39 rfl (by decide) ?_
          refine G_goto (pc := 42) (tgt := 11) dX9_rentsAny_42 (by decide) ?_
          exact ih (j + 1) _ (by omega) (fun i hi => by by_cases e : i = j; (subst e; exact c34); exact hq9 i (by omega))
        · skip
          refine G_iconst (pc := 37) (v := nI 1) dX9_rentsAny_37 (by first | rfl | decide) ?_
          refine G_zret (pc := 38) VZ.n dX9_rentsAny_38 rfl (Or.inr rfl) ⟨by decide, by decide⟩ ?_
          exact ⟨congrArg (fun z => some (Value.int z)) (b2_t ((anyB_iff (p := (fun k => F 103 k = nI (c + 1))) 4).mpr ⟨j, hj9, c34⟩)).symm, rfl⟩
  refine G_aload_n (pc := 0) dX9_rentsAny_0 rfl ?_
  refine G_getS (pc := 1) fl_X9_11 (sh_k hH) rfl (sh_r0 hH) dX9_rentsAny_1 ?_
  refine G_astore_n (pc := 4) dX9_rentsAny_4 (by decide) ?_
  refine G_aload_n (pc := 5) dX9_rentsAny_5 rfl ?_
  refine G_alen (pc := 6) (v := nI 4) (sh_c0 hH) (by decide) (congrArg nI (sh_n0 hH)) dX9_rentsAny_6 ?_
  refine G_istore_n (pc := 7) dX9_rentsAny_7 (by decide) ?_
  refine G_iconst (pc := 8) (v := nI 0) dX9_rentsAny_8 (by first | rfl | decide) ?_
  refine G_istore (pc := 9) dX9_rentsAny_9 (by decide) ?_
  exact loop 4 0 _ rfl (fun i hi => absurd hi (Nat.not_lt_zero i))
theorem C_rentedTables {Γ : GTy} {Z : HS} {n : Nat} {F A : FT} {g : GN} (h : CI n Z F g A) : Tn Γ M_X9_rentedTables [.ref 800000] Z (rt (some (.int (nI (cnt (fun k => ¬ F 103 k ≤ 0) 4)))) Z) := by
  refine Tn_of' rfl rfl rfl ?_
  show G Γ M_X9_rentedTables (rm M_X9_rentedTables) (Vn Γ M_X9_rentedTables (rt (some (.int (nI (cnt (fun k => ¬ F 103 k ≤ 0) 4)))) Z)) (0, 0) 0 [some (.ref 800000), none, none, none, none, none] [] Z
  have h0 := h
  obtain ⟨hH, ⟨hPI, hPG, hZo⟩, ⟨hZh, hZd, hZw⟩, ⟨hZt, hZc, hZf⟩, ⟨hZr, hZs, hZl⟩, hZfr, hZbd⟩ := h0
  have loop : ∀ (n9 j : Nat) (v5 : Option Value), j + n9 = 4 → G Γ M_X9_rentedTables (rm M_X9_rentedTables) (Vn Γ M_X9_rentedTables (rt (some (.int (nI (cnt (fun k => ¬ F 103 k ≤ 0) 4)))) Z)) (0, 0) 13 [some (.ref 800000), some (.int (nI (cnt (fun k => ¬ F 103 k ≤ 0) j))), some (.ref 1800000), some (.int (nI 4)), some (.int (nI j)), v5] [] Z := by
    intro n9
    induction n9 with
    | zero =>
      intro j v5 hj
      obtain rfl : j = 4 := by omega
      refine G_iload (pc := 13) dX9_rentedTables_13 rfl ?_
      refine G_iload_n (pc := 15) dX9_rentedTables_15 rfl ?_
      refine G_icmp_geN (pc := 16) (tgt := 47) (by omega) (by omega) dX9_rentedTables_16 (by decide) (fun c16 => ?_) (fun c16 => ?_)
      · skip
        refine G_iload_n (pc := 47) dX9_rentedTables_47 rfl ?_
        refine G_iret (pc := 48) VZ.n dX9_rentedTables_48 rfl ⟨by decide, by decide⟩ ?_
        exact ⟨rfl, rfl⟩
      · omega
    | succ n9 ih =>
      intro j v5 hj
      have hj9 : j < 4 := by omega
      refine G_iload (pc := 13) dX9_rentedTables_13 rfl ?_
      refine G_iload_n (pc := 15) dX9_rentedTables_15 rfl ?_
      refine G_icmp_geN (pc := 16) (tgt := 47) (by omega) (by omega) dX9_rentedTables_16 (by decide) (fun c16 => ?_) (fun c16 => ?_)
      · omega
      · skip
        refine G_aload_n (pc := 19) dX9_rentedTables_19 rfl ?_
        refine G_iload (pc := 20) dX9_rentedTables_20 rfl ?_
        refine G_aaldS (pc := 22) (j := j) (sh_c0 hH) (by decide) rfl (Nat.lt_of_lt_of_eq hj9 (sh_n0 hH).symm) (by omega) (hH.2.2.1 j hj9).2 dX9_rentedTables_22 ?_
        refine G_astore (pc := 23) dX9_rentedTables_23 (by decide) ?_
        refine G_aload (pc := 25) dX9_rentedTables_25 rfl ?_
        refine G_ifnull_r (pc := 27) dX9_rentedTables_27 ?_
        rcases Nat.eq_zero_or_pos (g 0 j) with z | z
        · have e9 : cnt (fun k => ¬ F 103 k ≤ 0) (j + 1) = cnt (fun k => ¬ F 103 k ≤ 0) j + 0 := cnt_f (p := fun k => ¬ F 103 k ≤ 0) (fun q => q (by rw [(hPI.2.1 j hj9).2.1.1, z]; decide))
          refine G_aload (pc := 30) dX9_rentedTables_30 rfl ?_
          refine G_getN (pc := 32) fl_X9_87 (hH.2.2.1 j hj9).1 rfl ((hZt j hj9).2.1 z) dX9_rentedTables_32 ?_
          refine G_ifnull_n (pc := 35) (tgt := 41) dX9_rentedTables_35 (by decide) ?_
          refine G_iincN (pc := 41) dX9_rentedTables_41 rfl (by decide) ?_
          refine G_goto (pc := 44) (tgt := 13) dX9_rentedTables_44 (by decide) ?_
          have h9 := ih (j + 1) (some (.ref (700000 + j))) (by omega)
          rw [e9] at h9
          exact h9
        · have e9 : cnt (fun k => ¬ F 103 k ≤ 0) (j + 1) = cnt (fun k => ¬ F 103 k ≤ 0) j + 1 := cnt_t (p := fun k => ¬ F 103 k ≤ 0) (by have b8 := (hPI.2.1 j hj9).2.1.2; rw [(hPI.2.1 j hj9).2.1.1]; exact nI_nle (by omega) (by omega))
          refine G_aload (pc := 30) dX9_rentedTables_30 rfl ?_
          refine G_getS (pc := 32) fl_X9_87 (hH.2.2.1 j hj9).1 rfl ((hZt j hj9).2.2.1 (by omega)).1 dX9_rentedTables_32 ?_
          refine G_ifnull_r (pc := 35) dX9_rentedTables_35 ?_
          refine G_iincN (pc := 38) dX9_rentedTables_38 rfl (by decide) ?_
          refine G_iincN (pc := 41) dX9_rentedTables_41 rfl (by decide) ?_
          refine G_goto (pc := 44) (tgt := 13) dX9_rentedTables_44 (by decide) ?_
          have h9 := ih (j + 1) (some (.ref (700000 + j))) (by omega)
          rw [e9] at h9
          exact h9
  refine G_iconst (pc := 0) (v := nI 0) dX9_rentedTables_0 (by first | rfl | decide) ?_
  refine G_istore_n (pc := 1) dX9_rentedTables_1 (by decide) ?_
  refine G_aload_n (pc := 2) dX9_rentedTables_2 rfl ?_
  refine G_getS (pc := 3) fl_X9_11 (sh_k hH) rfl (sh_r0 hH) dX9_rentedTables_3 ?_
  refine G_astore_n (pc := 6) dX9_rentedTables_6 (by decide) ?_
  refine G_aload_n (pc := 7) dX9_rentedTables_7 rfl ?_
  refine G_alen (pc := 8) (v := nI 4) (sh_c0 hH) (by decide) (congrArg nI (sh_n0 hH)) dX9_rentedTables_8 ?_
  refine G_istore_n (pc := 9) dX9_rentedTables_9 (by decide) ?_
  refine G_iconst (pc := 10) (v := nI 0) dX9_rentedTables_10 (by first | rfl | decide) ?_
  refine G_istore (pc := 11) dX9_rentedTables_11 (by decide) ?_
  exact loop 4 0 _ rfl
