-- ===== a frame put on a table =====
def onF (F : FT) (t f : Nat) : FT := u2 (u2 F 113 f (nI 0)) 104 t (nI (f + 1))
theorem on_o {F : FT} {t f s j : Nat} (h : s ≠ 104 ∧ s ≠ 113) : onF F t f s j = F s j := by
  unfold onF
  rw [u2_s h.1, u2_s h.2]
theorem on_104 {F : FT} {t f i : Nat} : onF F t f 104 i = if i = t then nI (f + 1) else F 104 i := by
  unfold onF
  by_cases e : i = t
  · rw [if_pos e, e, u2_e]
  · rw [if_neg e, u2_j e, u2_s (by decide)]
theorem on_113 {F : FT} {t f i : Nat} : onF F t f 113 i = if i = f then nI 0 else F 113 i := by
  unfold onF
  rw [u2_s (by decide)]
  by_cases e : i = f
  · rw [if_pos e, e, u2_e]
  · rw [if_neg e, u2_j e]
abbrev oS (s : Nat) : Prop := s ≠ 1 ∧ s ≠ 23 ∧ s ≠ 3 ∧ s ≠ 11 ∧ s ≠ 12 ∧ s ≠ 13 ∧ s ≠ 18
theorem PI_on {F : FT} {g G : GN} (h : PI F g) {t f : Nat} (ht : t < 4) (hf : f < g 16 0) (h1 : g 1 t = 0) (hw : F 113 f = nI 1) (e1 : ∀ i, G 1 i = if i = t then f + 1 else g 1 i) (e23 : ∀ i, G 23 i = if i = f then t + 1 else g 23 i) (eo : ∀ s j, oS s → G s j = g s j) : PI (onF F t f) G := by
  have fr := h.2.2.2.2.1 f hf
  have fr2 : F 117 f = -1 ∧ g 23 f = 0 ∧ ¬ lowF F f = -1 := by
    rcases fr.2.2 with q | q | q
    · exact absurd (hw.symm.trans q.1) (by decide)
    · exact ⟨q.2.1, q.2.2.1, q.2.2.2⟩
    · exact absurd (hw.symm.trans q.1) (by decide)
  refine ⟨?_, fun i hi => ?_, fun v hv => ?_, fun v w hv hw => ?_, fun f' hf' => ?_, fun f' hf' => ?_⟩
  · rw [on_o (by decide), on_o (by decide), eo _ _ (by decide), eo _ _ (by decide)]; exact h.1
  · rw [on_o (by decide), on_o (by decide), on_104, on_o (by decide), eo 0 _ (by decide), e1, eo 16 _ (by decide), eo 24 _ (by decide), eo 15 _ (by decide), e23]
    have := h.2.1 i hi
    by_cases e : i = t
    · rw [if_pos e, if_pos e]
      exact ⟨this.1, this.2.1, ⟨rfl, by omega⟩, this.2.2.2.1, this.2.2.2.2.1, fun _ => by rw [if_pos (by omega), e]⟩
    · rw [if_neg e, if_neg e]
      refine ⟨this.1, this.2.1, this.2.2.1, this.2.2.2.1, this.2.2.2.2.1, fun q => ?_⟩
      have w := this.2.2.2.2.2 q
      rw [if_neg (fun y => by rw [y, fr2.2.1] at w; omega)]
      exact w
  · rw [on_o (by decide), on_o (by decide), eo _ _ (by decide)]; exact h.2.2.1 v hv
  · rw [eo _ _ (by decide), eo _ _ (by decide)]; exact h.2.2.2.1 v w hv hw
  · rw [eo _ _ (by decide)] at hf'
    have q := h.2.2.2.2.1 f' hf'
    refine FrP_113 q (fun s j h1 h2 h3 => on_o ⟨by omega, h3⟩) (fun s h1 h2 => eo _ _ (by unfold oS; omega)) ?_
    rw [on_113, e23]
    by_cases e : f' = f
    · rw [if_pos e, if_pos e, e]
      exact Or.inr (Or.inr ⟨rfl, fr2.1, fr2.2.2, by omega, by omega, by rw [e1, if_pos (by omega)]⟩)
    · rw [if_neg e, if_neg e]
      rcases q.2.2 with w | w | w
      · exact Or.inl w
      · exact Or.inr (Or.inl w)
      · refine Or.inr (Or.inr ⟨w.1, w.2.1, w.2.2.1, w.2.2.2.1, w.2.2.2.2.1, ?_⟩)
        rw [e1, if_neg (fun y => by have := w.2.2.2.2.2; rw [y, h1] at this; omega)]
        exact w.2.2.2.2.2
  · rw [eo _ _ (by decide)] at hf'
    rw [on_113, if_neg (by omega), on_o (by decide), on_o (by decide), on_o (by decide), on_o (by decide)]
    exact h.2.2.2.2.2 f' hf'
def onG (g : GN) (t f : Nat) : GN := u2 (u2 g 1 t (f + 1)) 23 f (t + 1)
theorem nG_1 {g : GN} {t f i : Nat} : onG g t f 1 i = if i = t then f + 1 else g 1 i := by
  unfold onG
  rw [u2n_s (by decide)]
  by_cases e : i = t
  · rw [if_pos e, e, u2n_e]
  · rw [if_neg e, u2n_j e]
theorem nG_23 {g : GN} {t f i : Nat} : onG g t f 23 i = if i = f then t + 1 else g 23 i := by
  unfold onG
  by_cases e : i = f
  · rw [if_pos e, e, u2n_e]
  · rw [if_neg e, u2n_j e, u2n_s (by decide)]
theorem nG_o {g : GN} {t f s j : Nat} (h : s ≠ 1 ∧ s ≠ 23) : onG g t f s j = g s j := by
  unfold onG
  rw [u2n_s h.2, u2n_s h.1]
theorem CIu_on0 {n : Nat} {Z : HS} {F A : FT} {g : GN} (h : CI n Z F g A) {t f : Nat} (ht : t < 4) (hf : f < g 16 0) (h1 : g 1 t = 0) (hw : F 113 f = nI 1) (hl : F 112 f = 0) : CI n (sR (sR Z 2 5 (200000 + f) (some (700000 + t))) 7 3 (700000 + t) (some (200000 + f))) (onF F t f) (onG g t f) A := by
  have h0 := h
  obtain ⟨hH, ⟨hPI, hPG, hZo⟩, ⟨hZh, hZd, hZw⟩, ⟨hZt, hZc, hZf⟩, ⟨hZr, hZs, hZl⟩, hZfr, hZbd⟩ := h0
  have lI : xI (sR (sR Z 2 5 (200000 + f) (some (700000 + t))) 7 3 (700000 + t) (some (200000 + f))) = xI Z := by rw [xI_sR', xI_sR']
  have lR : ∀ c9 k9 a9, ¬ (c9 = 2 ∧ k9 = 5 ∧ a9 = (200000 + f)) → ¬ (c9 = 7 ∧ k9 = 3 ∧ a9 = (700000 + t)) → xR (sR (sR Z 2 5 (200000 + f) (some (700000 + t))) 7 3 (700000 + t) (some (200000 + f))) c9 k9 a9 = xR Z c9 k9 a9 := fun c9 k9 a9 w0 w1 => by rw [xR_sR w1, xR_sR w0]
  have mR0 : xR (sR (sR Z 2 5 (200000 + f) (some (700000 + t))) 7 3 (700000 + t) (some (200000 + f))) 2 5 (200000 + f) = (some (700000 + t)) := by rw [xR_sR (by first | decide | omega), xR_sRe]
  have mR1 : xR (sR (sR Z 2 5 (200000 + f) (some (700000 + t))) 7 3 (700000 + t) (some (200000 + f))) 7 3 (700000 + t) = (some (200000 + f)) := by rw [xR_sRe]
  have lA : xA (sR (sR Z 2 5 (200000 + f) (some (700000 + t))) 7 3 (700000 + t) (some (200000 + f))) = xA Z := by rw [xA_sR', xA_sR']
  have lP : xP (sR (sR Z 2 5 (200000 + f) (some (700000 + t))) 7 3 (700000 + t) (some (200000 + f))) = xP Z := by rw [xP_sR', xP_sR']
  have lJ : xJ (sR (sR Z 2 5 (200000 + f) (some (700000 + t))) 7 3 (700000 + t) (some (200000 + f))) = xJ Z := by rw [xJ_sR', xJ_sR']
  have lK : xK (sR (sR Z 2 5 (200000 + f) (some (700000 + t))) 7 3 (700000 + t) (some (200000 + f))) = xK Z := by rw [xK_sR', xK_sR']
  have lN : xn (sR (sR Z 2 5 (200000 + f) (some (700000 + t))) 7 3 (700000 + t) (some (200000 + f))) = xn Z := by rw [xn_sR', xn_sR']
  generalize sR (sR Z 2 5 (200000 + f) (some (700000 + t))) 7 3 (700000 + t) (some (200000 + f)) = L at *
  have leE : ∀ i, leag (onF F t f) (onG g t f) i ↔ leag F g i := fun i => by
    unfold leag
    rw [nG_1, on_o (by decide)]
    by_cases e : i = t
    · rw [if_pos e, e, h1]
      exact ⟨fun q => absurd hl q.2, fun q => absurd rfl q.1⟩
    · rw [if_neg e]
  have no := fun s j (q : s ≠ 1 ∧ s ≠ 23) => nG_o (g := g) (t := t) (f := f) (s := s) (j := j) q
  refine ⟨SH_t hH lK lN (fun c k a hc => lR _ _ _ (fun w => by omega) (fun w => by omega)) (fun a i ha => by rw [lP]), ⟨PI_on hPI ht hf h1 hw (fun i => nG_1) (fun i => nG_23) (fun s j q => nG_o ⟨q.1, q.2.1⟩), ⟨fun j hj => ?_, fun i hi hz => ?_, fun s hs => ?_, fun i hi => ?_, fun v hv => ?_⟩, fun c' hc' => ?_⟩, ⟨Zh_t hZh (fun k => by rw [lI]) (on_o (by decide)) (fun s h1 h2 => no _ _ (by omega)), Zd_t hZd (fun i => by rw [lA]) (owe_t (fun j => on_o (by decide)) (fun j => on_o (by decide))), Zw_t hZw (fun i => by rw [lA]) (fun c' => ?_)⟩, ⟨fun i hi => ?_, Zc_t hZc (fun k a => ⟨by rw [lI], by rw [lI]⟩) (fun k a => lR _ _ _ (fun w => absurd w.1 (by decide)) (fun w => absurd w.1 (by decide))) (fun u => ⟨on_o (by decide), on_o (by decide)⟩) (fun u => ⟨no _ _ (by decide), no _ _ (by decide)⟩), Zf_u hZf hPI.1.2.2 lK lN (fun k a => by rw [lI]) (fun f j _ => by rw [lA]) (fun f => by rw [lP]) (fun k a h5 => lR _ _ _ (fun w => h5 w.2.1) (fun w => absurd w.1 (by decide))) (fun f' hf' => ?_) (fun s j h1 h2 h3 => on_o ⟨by omega, h3⟩) (no _ _ (by decide))⟩, ⟨Zr_t hZr (fun j _ => by rw [lK]) (fun k a => by rw [lI]) (fun i => by rw [lP]) (fun j => rfl) (no _ _ (by decide)) (fun s j h1 h2 => no _ _ (by omega)), Zs_t hZs (fun j _ => by rw [lK]) (fun k a => by rw [lI]) (fun i => by rw [lP]) (no _ _ (by decide)) (fun s j h1 h2 => no _ _ (by omega)), Zl_t hZl (fun j _ => by rw [lK]) (fun k a => by rw [lI]) (fun i => by rw [lP]) (fun j => rfl) (no _ _ (by decide)) (fun j => no _ _ (by decide))⟩, Zfr_t hZfr (fun a => by rw [lK]) (fun s h1 h2 => no _ _ (by omega)), hZbd⟩
  · rw [no _ _ (by decide)] at hj
    rw [lmS_c (g := g) (fun s _ => ⟨no _ _ (by decide), no _ _ (by decide), no _ _ (by decide)⟩), no 6 _ (by decide), no 7 _ (by decide), no 8 _ (by decide), no 9 _ (by decide), no 10 _ (by decide), no 15 _ (by decide), no 18 _ (by decide)]
    exact hPG.1 j hj
  · rw [no _ _ (by decide)] at hz
    rw [lmS_c (g := g) (fun s _ => ⟨no _ _ (by decide), no _ _ (by decide), no _ _ (by decide)⟩), no 0 _ (by decide), no 2 _ (by decide), no 6 _ (by decide), no 7 _ (by decide), no 8 _ (by decide), no 9 _ (by decide), no 15 _ (by decide), no 17 _ (by decide), no 18 _ (by decide), no 24 _ (by decide)]
    exact hPG.2.1 i hi hz
  · rw [no 18 _ (by decide)] at hs
    rw [no 12 _ (by decide), no 13 _ (by decide), no 11 _ (by decide), no 15 _ (by decide), no 3 _ (by decide), leE]
    exact hPG.2.2.1 s hs
  · rw [leE, no 3 _ (by decide), no 18 _ (by decide), no 13 _ (by decide), no 11 _ (by decide)]
    exact hPG.2.2.2.1 i hi
  · rw [no 4 _ (by decide), no 5 _ (by decide), no 19 _ (by decide), no 14 _ (by decide)]
    exact hPG.2.2.2.2 v hv
  · rw [no 17 _ (by decide), no 19 _ (by decide), smR_c (g := g) (A := A) (fun j _ => ⟨no _ _ (by decide), no _ _ (by decide), rfl⟩), smL_c (g := g) (A := A) (fun l _ => ⟨no _ _ (by decide), rfl⟩), hZo c' hc', owe_t (F' := onF F t f) (F := F) (fun j => on_o (by decide)) (fun j => on_o (by decide))]
  · rw [no _ _ (by decide)]
    exact cnt_congr (fun j _ => by rw [on_o (by decide), on_o (by decide)])
  · have := hZt i hi
    rw [lI, lR 7 1 _ (fun w => absurd w.1 (by decide)) (fun w => absurd w.2.1 (by decide)), lR 7 4 _ (fun w => absurd w.1 (by decide)) (fun w => absurd w.2.1 (by decide)), b2_eq (q := F 102 i = 0) (by rw [on_o (by decide)]), no 0 _ (by decide), no 2 _ (by decide), no 3 _ (by decide), on_o (s := 105) (by decide), leE, nG_1]
    by_cases e : i = t
    · subst e
      rw [if_pos rfl, mR1]
      exact ⟨this.1, this.2.1, this.2.2.1, fun q => absurd q (by omega), fun _ => by rw [show f + 1 - 1 = f by omega], this.2.2.2.2.2⟩
    · rw [if_neg e, lR 7 3 _ (fun w => absurd w.1 (by decide)) (fun w => by omega)]
      exact this
  · rw [nG_23]
    by_cases e : f' = f
    · rw [if_pos e, e, mR0]
      exact ⟨fun q => absurd q (by omega), fun _ => by rw [show t + 1 - 1 = t by omega]⟩
    · rw [if_neg e, lR 2 5 _ (fun w => by omega) (fun w => absurd w.1 (by decide))]
      exact (hZf f' hf').2.2.2.2
theorem nO_sR {Z : HS} {c k a q kd : Nat} {v : Option Nat} (h : a ≠ q) : nO (sR Z c k a v) q kd = sR (nO Z q kd) c k a v := by
  have e : (fun c' k' a' => if a' = q then none else u3 (xR Z) c k a v c' k' a') = u3 (fun c' k' a' => if a' = q then none else xR Z c' k' a') c k a v := by
    funext c' k' a'
    show _ = if c' = c ∧ k' = k ∧ a' = a then v else if a' = q then none else xR Z c' k' a'
    by_cases w : a' = q
    · rw [if_pos w, if_neg (fun y => h (y.2.2.symm.trans w)), if_pos w]
    · rw [if_neg w, if_neg w]
      rfl
  show ((xL Z ++ [q], va_up (xK Z) q kd), ((fun c' k' a' => if a' = q then 0 else xI Z c' k' a'), (fun c' k' a' => if a' = q then none else u3 (xR Z) c k a v c' k' a')), _) = _
  rw [e]
  rfl
theorem sI_sR {Z : HS} {c k a c' k' a' : Nat} {v : Option Nat} {w : Int32} : sI (sR Z c k a v) c' k' a' w = sR (sI Z c' k' a' w) c k a v := rfl
def snZ (Z : HS) (q t m : Nat) : HS := sI (sI (sI (nO Z q 6) 6 2 q (-1)) 6 0 q (nI t)) 6 1 q (nI m)
theorem snZ_AG {Z : HS} {q t m : Nat} (h : xK Z q = 99) : AG Z (snZ Z q t m) := ((((AG.refl Z).nX h).sI h).sI h).sI h
def onG1 (g : GN) (t f : Nat) : GN := u2 (u2 (u2 (u2 (u2 (onG g t f) 3 t (g 18 0)) 11 (g 18 0) t) 12 (g 18 0) (g 15 0)) 13 (g 18 0) 20000) 18 0 (g 18 0 + 1)
theorem g1_o {g : GN} {t f s j : Nat} (h : s ≠ 3 ∧ s ≠ 11 ∧ s ≠ 12 ∧ s ≠ 13 ∧ s ≠ 18) : onG1 g t f s j = onG g t f s j := by
  unfold onG1
  rw [u2n_s h.2.2.2.2, u2n_s h.2.2.2.1, u2n_s h.2.2.1, u2n_s h.2.1, u2n_s h.1]
theorem g1_oo {g : GN} {t f s j : Nat} (h : oS s) : onG1 g t f s j = g s j := (g1_o ⟨h.2.2.1, h.2.2.2.1, h.2.2.2.2.1, h.2.2.2.2.2.1, h.2.2.2.2.2.2⟩).trans (nG_o ⟨h.1, h.2.1⟩)
theorem g1_18 {g : GN} {t f : Nat} : onG1 g t f 18 0 = g 18 0 + 1 := u2n_e
theorem g1_3 {g : GN} {t f i : Nat} : onG1 g t f 3 i = if i = t then g 18 0 else g 3 i := by
  unfold onG1
  rw [u2n_s (by decide), u2n_s (by decide), u2n_s (by decide), u2n_s (by decide)]
  by_cases e : i = t
  · rw [if_pos e, e, u2n_e]
  · rw [if_neg e, u2n_j e, nG_o (by decide)]
theorem g1_11 {g : GN} {t f i : Nat} : onG1 g t f 11 i = if i = g 18 0 then t else g 11 i := by
  unfold onG1
  rw [u2n_s (by decide), u2n_s (by decide), u2n_s (by decide)]
  by_cases e : i = g 18 0
  · rw [if_pos e, e, u2n_e]
  · rw [if_neg e, u2n_j e, u2n_s (by decide), nG_o (by decide)]
theorem g1_12 {g : GN} {t f i : Nat} : onG1 g t f 12 i = if i = g 18 0 then g 15 0 else g 12 i := by
  unfold onG1
  rw [u2n_s (by decide), u2n_s (by decide)]
  by_cases e : i = g 18 0
  · rw [if_pos e, e, u2n_e]
  · rw [if_neg e, u2n_j e, u2n_s (by decide), u2n_s (by decide), nG_o (by decide)]
theorem g1_13 {g : GN} {t f i : Nat} : onG1 g t f 13 i = if i = g 18 0 then 20000 else g 13 i := by
  unfold onG1
  rw [u2n_s (by decide)]
  by_cases e : i = g 18 0
  · rw [if_pos e, e, u2n_e]
  · rw [if_neg e, u2n_j e, u2n_s (by decide), u2n_s (by decide), u2n_s (by decide), nG_o (by decide)]
theorem CIu_on1 {n : Nat} {Z : HS} {F A : FT} {g : GN} (h : CI n Z F g A) (hn : n < 512) {t f : Nat} (ht : t < 4) (hf : f < g 16 0) (h1 : g 1 t = 0) (hw : F 113 f = nI 1) (hl : ¬ F 112 f = 0) : CI (n + 1) (sI (sP (sR (sR (sR (snZ Z (600000 + g 18 0) t (g 15 0)) 2 5 (200000 + f) (some (700000 + t))) 7 3 (700000 + t) (some (200000 + f))) 7 4 (700000 + t) (some (600000 + g 18 0))) 1800004 (g 18 0) (some (600000 + g 18 0))) 8 12 800000 (nI (g 18 0 + 1))) (onF F t f) (onG1 g t f) A := by
  have h0 := h
  obtain ⟨hH, ⟨hPI, hPG, hZo⟩, ⟨hZh, hZd, hZw⟩, ⟨hZt, hZc, hZf⟩, ⟨hZr, hZs, hZl⟩, hZfr, hZbd⟩ := h0
  have hb := hZbd
  unfold Zbd at hb
  have now := hPI.1.1.2
  have q99 := hZfr.2.2.1 (g 18 0) (Nat.le_refl _) (by omega)
  obtain ⟨j1, ⟨j2, j3, j4⟩, ⟨j5, j6, j7⟩, ⟨j8, j9, j10⟩⟩ := agCJ (snZ_AG (t := t) (m := g 15 0) q99) h
  have kq : xK (snZ Z (600000 + g 18 0) t (g 15 0)) (600000 + g 18 0) = 6 := va_up_self _ _ _
  have i2 : xI (snZ Z (600000 + g 18 0) t (g 15 0)) 6 2 (600000 + g 18 0) = -1 := if_pos ⟨rfl, rfl, rfl⟩
  have i0 : xI (snZ Z (600000 + g 18 0) t (g 15 0)) 6 0 (600000 + g 18 0) = nI t := if_pos ⟨rfl, rfl, rfl⟩
  have i1 : xI (snZ Z (600000 + g 18 0) t (g 15 0)) 6 1 (600000 + g 18 0) = nI (g 15 0) := if_pos ⟨rfl, rfl, rfl⟩
  have xk : ∀ a, a ≠ (600000 + g 18 0) → xK (snZ Z (600000 + g 18 0) t (g 15 0)) a = xK Z a := fun a ha => va_up_ne _ _ ha
  generalize snZ Z (600000 + g 18 0) t (g 15 0) = N at *
  have lI : ∀ c9 k9 a9, ¬ (c9 = 8 ∧ k9 = 12 ∧ a9 = 800000) → xI (sI (sP (sR (sR (sR N 2 5 (200000 + f) (some (700000 + t))) 7 3 (700000 + t) (some (200000 + f))) 7 4 (700000 + t) (some (600000 + g 18 0))) 1800004 (g 18 0) (some (600000 + g 18 0))) 8 12 800000 (nI (g 18 0 + 1))) c9 k9 a9 = xI N c9 k9 a9 := fun c9 k9 a9 w0 => by rw [xI_sI w0, xI_sP', xI_sR', xI_sR', xI_sR']
  have mI0 : xI (sI (sP (sR (sR (sR N 2 5 (200000 + f) (some (700000 + t))) 7 3 (700000 + t) (some (200000 + f))) 7 4 (700000 + t) (some (600000 + g 18 0))) 1800004 (g 18 0) (some (600000 + g 18 0))) 8 12 800000 (nI (g 18 0 + 1))) 8 12 800000 = (nI (g 18 0 + 1)) := by rw [xI_sIe]
  have lR : ∀ c9 k9 a9, ¬ (c9 = 2 ∧ k9 = 5 ∧ a9 = (200000 + f)) → ¬ (c9 = 7 ∧ k9 = 3 ∧ a9 = (700000 + t)) → ¬ (c9 = 7 ∧ k9 = 4 ∧ a9 = (700000 + t)) → xR (sI (sP (sR (sR (sR N 2 5 (200000 + f) (some (700000 + t))) 7 3 (700000 + t) (some (200000 + f))) 7 4 (700000 + t) (some (600000 + g 18 0))) 1800004 (g 18 0) (some (600000 + g 18 0))) 8 12 800000 (nI (g 18 0 + 1))) c9 k9 a9 = xR N c9 k9 a9 := fun c9 k9 a9 w0 w1 w2 => by rw [xR_sI', xR_sP', xR_sR w2, xR_sR w1, xR_sR w0]
  have mR0 : xR (sI (sP (sR (sR (sR N 2 5 (200000 + f) (some (700000 + t))) 7 3 (700000 + t) (some (200000 + f))) 7 4 (700000 + t) (some (600000 + g 18 0))) 1800004 (g 18 0) (some (600000 + g 18 0))) 8 12 800000 (nI (g 18 0 + 1))) 2 5 (200000 + f) = (some (700000 + t)) := by rw [xR_sI', xR_sP', xR_sR (by first | decide | omega), xR_sR (by first | decide | omega), xR_sRe]
  have mR1 : xR (sI (sP (sR (sR (sR N 2 5 (200000 + f) (some (700000 + t))) 7 3 (700000 + t) (some (200000 + f))) 7 4 (700000 + t) (some (600000 + g 18 0))) 1800004 (g 18 0) (some (600000 + g 18 0))) 8 12 800000 (nI (g 18 0 + 1))) 7 3 (700000 + t) = (some (200000 + f)) := by rw [xR_sI', xR_sP', xR_sR (by first | decide | omega), xR_sRe]
  have mR2 : xR (sI (sP (sR (sR (sR N 2 5 (200000 + f) (some (700000 + t))) 7 3 (700000 + t) (some (200000 + f))) 7 4 (700000 + t) (some (600000 + g 18 0))) 1800004 (g 18 0) (some (600000 + g 18 0))) 8 12 800000 (nI (g 18 0 + 1))) 7 4 (700000 + t) = (some (600000 + g 18 0)) := by rw [xR_sI', xR_sP', xR_sRe]
  have lA : xA (sI (sP (sR (sR (sR N 2 5 (200000 + f) (some (700000 + t))) 7 3 (700000 + t) (some (200000 + f))) 7 4 (700000 + t) (some (600000 + g 18 0))) 1800004 (g 18 0) (some (600000 + g 18 0))) 8 12 800000 (nI (g 18 0 + 1))) = xA N := by rw [xA_sI', xA_sP', xA_sR', xA_sR', xA_sR']
  have lP : ∀ a9 i9, ¬ (a9 = 1800004 ∧ i9 = (g 18 0)) → xP (sI (sP (sR (sR (sR N 2 5 (200000 + f) (some (700000 + t))) 7 3 (700000 + t) (some (200000 + f))) 7 4 (700000 + t) (some (600000 + g 18 0))) 1800004 (g 18 0) (some (600000 + g 18 0))) 8 12 800000 (nI (g 18 0 + 1))) a9 i9 = xP N a9 i9 := fun a9 i9 w0 => by rw [xP_sI', xP_sP w0, xP_sR', xP_sR', xP_sR']
  have mP0 : xP (sI (sP (sR (sR (sR N 2 5 (200000 + f) (some (700000 + t))) 7 3 (700000 + t) (some (200000 + f))) 7 4 (700000 + t) (some (600000 + g 18 0))) 1800004 (g 18 0) (some (600000 + g 18 0))) 8 12 800000 (nI (g 18 0 + 1))) 1800004 (g 18 0) = (some (600000 + g 18 0)) := by rw [xP_sI', xP_sPe]
  have lJ : xJ (sI (sP (sR (sR (sR N 2 5 (200000 + f) (some (700000 + t))) 7 3 (700000 + t) (some (200000 + f))) 7 4 (700000 + t) (some (600000 + g 18 0))) 1800004 (g 18 0) (some (600000 + g 18 0))) 8 12 800000 (nI (g 18 0 + 1))) = xJ N := by rw [xJ_sI', xJ_sP', xJ_sR', xJ_sR', xJ_sR']
  have lK : xK (sI (sP (sR (sR (sR N 2 5 (200000 + f) (some (700000 + t))) 7 3 (700000 + t) (some (200000 + f))) 7 4 (700000 + t) (some (600000 + g 18 0))) 1800004 (g 18 0) (some (600000 + g 18 0))) 8 12 800000 (nI (g 18 0 + 1))) = xK N := by rw [xK_sI', xK_sP', xK_sR', xK_sR', xK_sR']
  have lN : xn (sI (sP (sR (sR (sR N 2 5 (200000 + f) (some (700000 + t))) 7 3 (700000 + t) (some (200000 + f))) 7 4 (700000 + t) (some (600000 + g 18 0))) 1800004 (g 18 0) (some (600000 + g 18 0))) 8 12 800000 (nI (g 18 0 + 1))) = xn N := by rw [xn_sI', xn_sP', xn_sR', xn_sR', xn_sR']
  generalize sI (sP (sR (sR (sR N 2 5 (200000 + f) (some (700000 + t))) 7 3 (700000 + t) (some (200000 + f))) 7 4 (700000 + t) (some (600000 + g 18 0))) 1800004 (g 18 0) (some (600000 + g 18 0))) 8 12 800000 (nI (g 18 0 + 1)) = L at *
  have le1 : ∀ i, i ≠ t → (leag (onF F t f) (onG1 g t f) i ↔ leag F g i) := fun i e => by
    unfold leag
    rw [g1_o (by decide), nG_1, on_o (by decide), if_neg e]
  have leT : leag (onF F t f) (onG1 g t f) t := by
    unfold leag
    rw [g1_o (by decide), nG_1, on_o (by decide), if_pos rfl]
    exact ⟨by omega, hl⟩
  have leN : ¬ leag F g t := fun q => q.1 h1
  have lmE : ∀ i st en, en ≤ g 15 0 → lmS (onG1 g t f) i st en (g 18 0 + 1) = lmS g i st en (g 18 0) := fun i st en he => by
    show lmS (onG1 g t f) i st en (g 18 0) + (if onG1 g t f 11 (g 18 0) = i then min (onG1 g t f 13 (g 18 0)) en - max (onG1 g t f 12 (g 18 0)) st else 0) = _
    rw [lmS_c (g := g) (fun s hs => ⟨by rw [g1_11, if_neg (by omega)], by rw [g1_12, if_neg (by omega)], by rw [g1_13, if_neg (by omega)]⟩), g1_12, if_pos rfl]
    split <;> omega
  have no := fun s j (q : oS s) => g1_oo (g := g) (t := t) (f := f) (s := s) (j := j) q
  refine ⟨SH_t j1 lK lN (fun c k a hc => lR _ _ _ (fun w => by omega) (fun w => by omega) (fun w => by omega)) (fun a i ha => lP _ _ (fun w => by omega)), ⟨PI_on hPI ht hf h1 hw (fun i => (g1_o (by decide)).trans nG_1) (fun i => (g1_o (by decide)).trans nG_23) (fun s j q => g1_oo q), ⟨fun j hj => ?_, fun i hi hz => ?_, fun s hs => ?_, fun i hi => ?_, fun v hv => ?_⟩, fun c' hc' => ?_⟩, ⟨⟨?_, ⟨?_, ?_⟩, ?_⟩, Zd_t j3 (fun i => by rw [lA]) (owe_t (fun j => on_o (by decide)) (fun j => on_o (by decide))), Zw_t j4 (fun i => by rw [lA]) (fun c' => ?_)⟩, ⟨fun i hi => ?_, Zc_t j6 (fun k a => ⟨lI _ _ _ (fun w => absurd w.1 (by decide)), lI _ _ _ (fun w => absurd w.1 (by decide))⟩) (fun k a => lR _ _ _ (fun w => absurd w.1 (by decide)) (fun w => absurd w.1 (by decide)) (fun w => absurd w.1 (by decide))) (fun u => ⟨on_o (by decide), on_o (by decide)⟩) (fun u => ⟨no _ _ (by decide), no _ _ (by decide)⟩), Zf_u j7 hPI.1.2.2 lK lN (fun k a => lI _ _ _ (fun w => absurd w.1 (by decide))) (fun f j _ => by rw [lA]) (fun f => lP _ _ (fun w => absurd w.1 (by decide))) (fun k a h5 => lR _ _ _ (fun w => h5 w.2.1) (fun w => absurd w.1 (by decide)) (fun w => absurd w.1 (by decide))) (fun f' hf' => ?_) (fun s j h1 h2 h3 => on_o ⟨by omega, h3⟩) (no _ _ (by decide))⟩, ⟨Zr_t j8 (fun j _ => by rw [lK]) (fun k a => lI _ _ _ (fun w => absurd w.1 (by decide))) (fun i => lP _ _ (fun w => absurd w.1 (by decide))) (fun j => rfl) (no _ _ (by decide)) (fun s j h1 h2 => no _ _ (by unfold oS; omega)), fun s hs => ?_, Zl_t j10 (fun j _ => by rw [lK]) (fun k a => lI _ _ _ (fun w => absurd w.1 (by decide))) (fun i => lP _ _ (fun w => absurd w.1 (by decide))) (fun j => rfl) (no _ _ (by decide)) (fun j => no _ _ (by decide))⟩, ⟨fun f h1 h2 => ?_, fun j h1 h2 => ?_, fun j h1 h2 => ?_, fun j h1 h2 => ?_⟩, ?_⟩
  · rw [no _ _ (by decide)] at hj
    have := hPG.1 j hj
    rw [g1_18, no 6 _ (by decide), no 7 _ (by decide), no 8 _ (by decide), no 9 _ (by decide), no 10 _ (by decide), no 15 _ (by decide)]
    refine ⟨this.1, this.2.1, this.2.2.1, fun q => ?_⟩
    rw [lmE _ _ _ (this.2.2.2 q).1]
    exact this.2.2.2 q
  · rw [no _ _ (by decide)] at hz
    rw [g1_18, no 0 _ (by decide), no 2 _ (by decide), no 6 _ (by decide), no 7 _ (by decide), no 8 _ (by decide), no 9 _ (by decide), no 15 _ (by decide), no 17 _ (by decide), no 24 _ (by decide), lmE _ _ _ (Nat.le_refl _)]
    exact hPG.2.1 i hi hz
  · rw [g1_18] at hs
    rw [g1_12, g1_13, g1_11, no 15 _ (by decide)]
    by_cases e : s = g 18 0
    · rw [if_pos e, if_pos e, if_pos e, g1_3, if_pos rfl]
      exact ⟨⟨Nat.le_refl _, ht⟩, Or.inl rfl, fun _ => ⟨leT, e.symm⟩⟩
    · rw [if_neg e, if_neg e, if_neg e, g1_3]
      have := hPG.2.2.1 s (by omega)
      refine ⟨this.1, this.2.1, fun q => ?_⟩
      have w := this.2.2 q
      have ne : g 11 s ≠ t := fun y => leN (y ▸ w.1)
      rw [if_neg ne]
      exact ⟨(le1 _ ne).mpr w.1, w.2⟩
  · intro q
    rw [g1_3, g1_18]
    by_cases e : i = t
    · rw [if_pos e, g1_13, g1_11, if_pos rfl, if_pos rfl]
      exact ⟨Nat.lt_succ_self _, rfl, e.symm⟩
    · have w := hPG.2.2.2.1 i hi ((le1 i e).mp q)
      rw [if_neg e, g1_13, g1_11, if_neg (by omega), if_neg (by omega)]
      exact ⟨by omega, w.2⟩
  · rw [no 4 _ (by decide), no 5 _ (by decide), no 19 _ (by decide), no 14 _ (by decide)]
    exact hPG.2.2.2.2 v hv
  · rw [no 17 _ (by decide), no 19 _ (by decide), smR_c (g := g) (A := A) (fun j _ => ⟨no _ _ (by decide), no _ _ (by decide), rfl⟩), smL_c (g := g) (A := A) (fun l _ => ⟨no _ _ (by decide), rfl⟩), hZo c' hc', owe_t (F' := onF F t f) (F := F) (fun j => on_o (by decide)) (fun j => on_o (by decide))]
  · rw [lI _ _ _ (by decide), lI _ _ _ (by decide), no _ _ (by decide), no _ _ (by decide)]; exact j2.1
  · rw [mI0, g1_18]
  · rw [lI _ _ _ (by decide), no _ _ (by decide)]; exact j2.2.1.2
  · rw [lI _ _ _ (by decide), lI _ _ _ (by decide), on_o (by decide), no _ _ (by decide)]; exact j2.2.2
  · rw [no _ _ (by decide)]
    exact cnt_congr (fun j _ => by rw [on_o (by decide), on_o (by decide)])
  · have := j5 i hi
    rw [lI 7 0 _ (fun w => absurd w.1 (by decide)), lI 7 2 _ (fun w => absurd w.1 (by decide)), lR 7 1 _ (fun w => absurd w.1 (by decide)) (fun w => absurd w.2.1 (by decide)) (fun w => absurd w.2.1 (by decide)), b2_eq (q := F 102 i = 0) (by rw [on_o (by decide)]), no 0 _ (by decide), no 2 _ (by decide), g1_3, on_o (s := 105) (by decide), g1_o (s := 1) (by decide), nG_1]
    by_cases e : i = t
    · subst e
      rw [if_pos rfl, if_pos rfl, mR1, mR2]
      exact ⟨this.1, this.2.1, this.2.2.1, fun q => absurd q (by omega), fun _ => by rw [show f + 1 - 1 = f by omega], fun q => absurd leT q, fun _ => rfl⟩
    · rw [if_neg e, if_neg e, lR 7 3 _ (fun w => absurd w.1 (by decide)) (fun w => by omega) (fun w => absurd w.2.1 (by decide)), lR 7 4 _ (fun w => absurd w.1 (by decide)) (fun w => absurd w.2.1 (by decide)) (fun w => by omega), le1 i e]
      exact this
  · rw [g1_o (by decide), nG_23]
    by_cases e : f' = f
    · rw [if_pos e, e, mR0]
      exact ⟨fun q => absurd q (by omega), fun _ => by rw [show t + 1 - 1 = t by omega]⟩
    · rw [if_neg e, lR 2 5 _ (fun w => by omega) (fun w => absurd w.1 (by decide)) (fun w => absurd w.1 (by decide))]
      exact (j7 f' hf').2.2.2.2
  · rw [g1_18] at hs
    rw [lK, lI 6 0 _ (fun w => absurd w.1 (by decide)), lI 6 1 _ (fun w => absurd w.1 (by decide)), lI 6 2 _ (fun w => absurd w.1 (by decide)), g1_11, g1_12, g1_13]
    by_cases e : s = g 18 0
    · subst e
      rw [if_pos rfl, if_pos rfl, if_pos rfl, if_pos rfl]
      exact ⟨kq, mP0, ⟨i0, i1⟩, i2⟩
    · rw [if_neg e, if_neg e, if_neg e, lP _ _ (fun w => e w.2)]
      exact j9 s (by omega)
  · rw [no _ _ (by decide)] at h1
    rw [lK, xk _ (by omega), xk _ (by omega)]; exact hZfr.1 f h1 h2
  · rw [no _ _ (by decide)] at h1
    rw [lK, xk _ (by omega)]; exact hZfr.2.1 j h1 h2
  · rw [g1_18] at h1
    rw [lK, xk _ (by omega)]; exact hZfr.2.2.1 j (by omega) h2
  · rw [no _ _ (by decide)] at h1
    rw [lK, xk _ (by omega)]; exact hZfr.2.2.2 j h1 h2
  · unfold Zbd
    rw [g1_18, no _ _ (by decide), no _ _ (by decide)]
    omega
