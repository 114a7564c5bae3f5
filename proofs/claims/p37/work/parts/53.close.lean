-- ===== takeFrameOff =====
theorem C_sclose {Γ : GTy} {Z : HS} {q : Nat} (hk : xK Z q = 6) (w : Int32) : Tn Γ M_X7_close [.ref q, .int w] Z (rt none (sI Z 6 2 q w)) := by
  refine Tn_of' rfl rfl rfl ?_
  show G Γ M_X7_close (rm M_X7_close) (Vn Γ M_X7_close (rt none (sI Z 6 2 q w))) (0, 0) 0 [some (.ref q), some (.int w)] [] Z
  refine G_aload_n (pc := 0) dX7_close_0 rfl ?_
  refine G_iload_n (pc := 1) dX7_close_1 rfl ?_
  refine G_putI (pc := 2) fl_X7_9 fw_6_2 hk rfl dX7_close_2 ?_
  refine G_vret (pc := 5) VZ.n dX7_close_5 rfl ⟨by decide, by decide⟩ ?_
  exact ⟨rfl, rfl⟩
theorem C_off0 {Γ : GTy} {Z : HS} {n : Nat} {F A : FT} {g : GN} (h : CI n Z F g A) {t : Nat} (ht : t < 4) (hz : g 1 t = 0) : Tn Γ M_X9_takeFrameOff [.ref 800000, .ref (700000 + t)] Z (rt none Z) := by
  refine Tn_of' rfl rfl rfl ?_
  show G Γ M_X9_takeFrameOff (rm M_X9_takeFrameOff) (Vn Γ M_X9_takeFrameOff (rt none Z)) (0, 0) 0 [some (.ref 800000), some (.ref (700000 + t))] [] Z
  have h0 := h
  obtain ⟨hH, ⟨hPI, hPG, hZo⟩, ⟨hZh, hZd, hZw⟩, ⟨hZt, hZc, hZf⟩, ⟨hZr, hZs, hZl⟩, hZfr, hZbd⟩ := h0
  refine G_aload_n (pc := 0) dX9_takeFrameOff_0 rfl ?_
  refine G_ifnull_r (pc := 1) dX9_takeFrameOff_1 ?_
  refine G_aload_n (pc := 4) dX9_takeFrameOff_4 rfl ?_
  refine G_getN (pc := 5) fl_X9_257 (hH.2.2.1 t ht).1 rfl ((hZt t ht).2.2.2.1 hz) dX9_takeFrameOff_5 ?_
  refine G_ifnonnull_n (pc := 8) dX9_takeFrameOff_8 ?_
  refine G_vret (pc := 11) VZ.n dX9_takeFrameOff_11 rfl ⟨by decide, by decide⟩ ?_
  exact ⟨rfl, rfl⟩
theorem C_offN {Γ : GTy} {Z : HS} {n : Nat} {F A : FT} {g : GN} (h : CI n Z F g A) {t : Nat} (ht : t < 4) (hz : g 1 t ≠ 0) (hl : ¬ leag F g t) : Tn Γ M_X9_takeFrameOff [.ref 800000, .ref (700000 + t)] Z (rt none (sR (sR Z 2 5 (200000 + (g 1 t - 1)) none) 7 3 (700000 + t) none)) := by
  refine Tn_of' rfl rfl rfl ?_
  show G Γ M_X9_takeFrameOff (rm M_X9_takeFrameOff) (Vn Γ M_X9_takeFrameOff (rt none (sR (sR Z 2 5 (200000 + (g 1 t - 1)) none) 7 3 (700000 + t) none))) (0, 0) 0 [some (.ref 800000), some (.ref (700000 + t))] [] Z
  have h0 := h
  obtain ⟨hH, ⟨hPI, hPG, hZo⟩, ⟨hZh, hZd, hZw⟩, ⟨hZt, hZc, hZf⟩, ⟨hZr, hZs, hZl⟩, hZfr, hZbd⟩ := h0
  have hf : g 1 t - 1 < g 16 0 := by have := (hPI.2.1 t ht).2.2.1.2; omega
  refine G_aload_n (pc := 0) dX9_takeFrameOff_0 rfl ?_
  refine G_ifnull_r (pc := 1) dX9_takeFrameOff_1 ?_
  refine G_aload_n (pc := 4) dX9_takeFrameOff_4 rfl ?_
  refine G_getS (pc := 5) fl_X9_257 (hH.2.2.1 t ht).1 rfl ((hZt t ht).2.2.2.2.1 hz) dX9_takeFrameOff_5 ?_
  refine G_ifnonnull_r (pc := 8) (tgt := 12) dX9_takeFrameOff_8 (by decide) ?_
  refine G_aload_n (pc := 12) dX9_takeFrameOff_12 rfl ?_
  refine G_getS (pc := 13) fl_X9_257 (hH.2.2.1 t ht).1 rfl ((hZt t ht).2.2.2.2.1 hz) dX9_takeFrameOff_13 ?_
  refine G_null (pc := 16) dX9_takeFrameOff_16 ?_
  refine G_putR (pc := 17) (o := none) rfl (fun _ h => nomatch h) fl_X9_185 fw_2_5 (hZf _ hf).1.1 rfl dX9_takeFrameOff_17 ?_
  refine G_aload_n (pc := 20) dX9_takeFrameOff_20 rfl ?_
  refine G_null (pc := 21) dX9_takeFrameOff_21 ?_
  refine G_putR (pc := 22) (o := none) rfl (fun _ h => nomatch h) fl_X9_257 fw_7_3 (hH.2.2.1 t ht).1 rfl dX9_takeFrameOff_22 ?_
  refine G_aload_n (pc := 25) dX9_takeFrameOff_25 rfl ?_
  refine G_getN (pc := 26) fl_X9_343 (hH.2.2.1 t ht).1 rfl ((xR_sR (fun w => absurd w.2.1 (by decide))).trans ((xR_sR (fun w => absurd w.1 (by decide))).trans ((hZt t ht).2.2.2.2.2.1 hl))) dX9_takeFrameOff_26 ?_
  refine G_ifnull_n (pc := 29) (tgt := 48) dX9_takeFrameOff_29 (by decide) ?_
  refine G_vret (pc := 48) VZ.n dX9_takeFrameOff_48 rfl ⟨by decide, by decide⟩ ?_
  exact ⟨rfl, rfl⟩
theorem C_offL {Γ : GTy} {Z : HS} {n : Nat} {F A : FT} {g : GN} (h : CI n Z F g A) {t : Nat} (ht : t < 4) (hz : g 1 t ≠ 0) (hl : leag F g t) : Tn Γ M_X9_takeFrameOff [.ref 800000, .ref (700000 + t)] Z (rt none (sR (sI (sR (sR Z 2 5 (200000 + (g 1 t - 1)) none) 7 3 (700000 + t) none) 6 2 (600000 + g 3 t) (nI (g 15 0))) 7 4 (700000 + t) none)) := by
  refine Tn_of' rfl rfl rfl ?_
  show G Γ M_X9_takeFrameOff (rm M_X9_takeFrameOff) (Vn Γ M_X9_takeFrameOff (rt none (sR (sI (sR (sR Z 2 5 (200000 + (g 1 t - 1)) none) 7 3 (700000 + t) none) 6 2 (600000 + g 3 t) (nI (g 15 0))) 7 4 (700000 + t) none))) (0, 0) 0 [some (.ref 800000), some (.ref (700000 + t))] [] Z
  have h0 := h
  obtain ⟨hH, ⟨hPI, hPG, hZo⟩, ⟨hZh, hZd, hZw⟩, ⟨hZt, hZc, hZf⟩, ⟨hZr, hZs, hZl⟩, hZfr, hZbd⟩ := h0
  have hf : g 1 t - 1 < g 16 0 := by have := (hPI.2.1 t ht).2.2.1.2; omega
  refine G_aload_n (pc := 0) dX9_takeFrameOff_0 rfl ?_
  refine G_ifnull_r (pc := 1) dX9_takeFrameOff_1 ?_
  refine G_aload_n (pc := 4) dX9_takeFrameOff_4 rfl ?_
  refine G_getS (pc := 5) fl_X9_257 (hH.2.2.1 t ht).1 rfl ((hZt t ht).2.2.2.2.1 hz) dX9_takeFrameOff_5 ?_
  refine G_ifnonnull_r (pc := 8) (tgt := 12) dX9_takeFrameOff_8 (by decide) ?_
  refine G_aload_n (pc := 12) dX9_takeFrameOff_12 rfl ?_
  refine G_getS (pc := 13) fl_X9_257 (hH.2.2.1 t ht).1 rfl ((hZt t ht).2.2.2.2.1 hz) dX9_takeFrameOff_13 ?_
  refine G_null (pc := 16) dX9_takeFrameOff_16 ?_
  refine G_putR (pc := 17) (o := none) rfl (fun _ h => nomatch h) fl_X9_185 fw_2_5 (hZf _ hf).1.1 rfl dX9_takeFrameOff_17 ?_
  refine G_aload_n (pc := 20) dX9_takeFrameOff_20 rfl ?_
  refine G_null (pc := 21) dX9_takeFrameOff_21 ?_
  refine G_putR (pc := 22) (o := none) rfl (fun _ h => nomatch h) fl_X9_257 fw_7_3 (hH.2.2.1 t ht).1 rfl dX9_takeFrameOff_22 ?_
  refine G_aload_n (pc := 25) dX9_takeFrameOff_25 rfl ?_
  refine G_getS (pc := 26) fl_X9_343 (hH.2.2.1 t ht).1 rfl ((xR_sR (fun w => absurd w.2.1 (by decide))).trans ((xR_sR (fun w => absurd w.1 (by decide))).trans ((hZt t ht).2.2.2.2.2.2 hl))) dX9_takeFrameOff_26 ?_
  refine G_ifnull_r (pc := 29) dX9_takeFrameOff_29 ?_
  refine G_aload_n (pc := 32) dX9_takeFrameOff_32 rfl ?_
  refine G_getS (pc := 33) fl_X9_343 (hH.2.2.1 t ht).1 rfl ((xR_sR (fun w => absurd w.2.1 (by decide))).trans ((xR_sR (fun w => absurd w.1 (by decide))).trans ((hZt t ht).2.2.2.2.2.2 hl))) dX9_takeFrameOff_33 ?_
  refine G_aload_n (pc := 36) dX9_takeFrameOff_36 rfl ?_
  refine G_getIv (pc := 37) (c := 8) (i := 15) (v := nI (g 15 0)) hZh.2.2.2 fl_X9_102 (sh_k hH) rfl dX9_takeFrameOff_37 ?_
  refine K_Vn1v (pc := 40) (k' := (0, 0)) mok_X7_close lk_X9_347 (hZs _ (hPG.2.2.2.1 t ht hl).1).1 rfl rfl rfl (aok0 rfl) dX9_takeFrameOff_40 (C_sclose (Z := (sR (sR Z 2 5 (200000 + (g 1 t - 1)) none) 7 3 (700000 + t) none)) (by rw [xK_sR', xK_sR']; exact (hZs _ (hPG.2.2.2.1 t ht hl).1).1) (nI (g 15 0))) rfl ?_
  refine G_aload_n (pc := 43) dX9_takeFrameOff_43 rfl ?_
  refine G_null (pc := 44) dX9_takeFrameOff_44 ?_
  refine G_putR (pc := 45) (o := none) rfl (fun _ h => nomatch h) fl_X9_343 fw_7_4 (hH.2.2.1 t ht).1 rfl dX9_takeFrameOff_45 ?_
  refine G_vret (pc := 48) VZ.n dX9_takeFrameOff_48 rfl ⟨by decide, by decide⟩ ?_
  exact ⟨rfl, rfl⟩
/-- takeFrameOff: the model's clears -/
theorem off_ok {Γ : GTy} {n : Nat} {Z : HS} {F A : FT} {g : GN} (h : CI n Z F g A) {t : Nat} (ht : t < 4) : ∃ (L : HS) (g' : GN), CI n L (mClears F t (g 1 t)) g' A ∧ rF L = rF Z ∧ g' 0 = g 0 ∧ Tn Γ M_X9_takeFrameOff [.ref 800000, .ref (700000 + t)] Z (rt none L) := by
  have h0 := h
  obtain ⟨hH, ⟨hPI, hPG, hZo⟩, ⟨hZh, hZd, hZw⟩, ⟨hZt, hZc, hZf⟩, ⟨hZr, hZs, hZl⟩, hZfr, hZbd⟩ := h0
  by_cases hz : g 1 t = 0
  · refine ⟨Z, g, ?_, rfl, rfl, C_off0 h ht hz⟩
    rw [hz, show mClears F t 0 = F from if_neg (Nat.lt_irrefl 0)]
    exact h
  · have o0 : offG F g t 0 = g 0 := funext (fun i => oG_o (by decide))
    by_cases hl : leag F g t
    · refine ⟨_, _, CIu_off h ht hz (by rw [xK_sR', xK_sI', xK_sR', xK_sR']) (by rw [xn_sR', xn_sI', xn_sR', xn_sR']) (by rw [xA_sR', xA_sI', xA_sR', xA_sR']) (by rw [xP_sR', xP_sI', xP_sR', xP_sR']) (fun c k a w => ?_) (fun _ => ?_) (fun c k a w1 w2 w3 => ?_) ?_ ?_ ?_, ?_, o0, C_offL h ht hz hl⟩
      · rw [xI_sR', xI_sI (fun y => w ⟨y.1, y.2.1, hl, y.2.2⟩), xI_sR', xI_sR']
      · rw [xI_sR', xI_sIe]
      · rw [xR_sR w3, xR_sI', xR_sR w2, xR_sR w1]
      · rw [xR_sR (fun w => absurd w.1 (by decide)), xR_sI', xR_sR (fun w => absurd w.1 (by decide)), xR_sRe]
      · rw [xR_sR (fun w => absurd w.2.1 (by decide)), xR_sI', xR_sRe]
      · rw [xR_sRe]
      · rw [rF_sR, rF_sI (by decide), rF_sR, rF_sR]
    · refine ⟨_, _, CIu_off h ht hz (by rw [xK_sR', xK_sR']) (by rw [xn_sR', xn_sR']) (by rw [xA_sR', xA_sR']) (by rw [xP_sR', xP_sR']) (fun c k a w => ?_) (fun q => absurd q hl) (fun c k a w1 w2 w3 => ?_) ?_ ?_ ?_, ?_, o0, C_offN h ht hz hl⟩
      · rw [xI_sR', xI_sR']
      · rw [xR_sR w2, xR_sR w1]
      · rw [xR_sR (fun w => absurd w.1 (by decide)), xR_sRe]
      · rw [xR_sRe]
      · rw [xR_sR (fun w => absurd w.2.1 (by decide)), xR_sR (fun w => absurd w.1 (by decide))]
        exact (hZt t ht).2.2.2.2.2.1 hl
      · rw [rF_sR, rF_sR]
-- ===== a renting closed =====
theorem smR_u {g g' : GN} {A : FT} {c j0 : Nat} {v : Int32} (e0 : g 9 j0 = 20000) (e1 : g' 9 j0 ≠ 20000) (e2 : ∀ j, j ≠ j0 → g' 9 j = g 9 j) (e3 : ∀ j, g' 7 j = g 7 j) : ∀ {m : Nat}, smR g' (u2 A 0 j0 v) c m = smR g A c m + (if j0 < m ∧ g 7 j0 = c then v else 0)
  | 0 => by
    rw [if_neg (fun q => by omega)]
    rfl
  | m + 1 => by
    show smR g' (u2 A 0 j0 v) c m + (if g' 7 m = c ∧ g' 9 m ≠ 20000 then u2 A 0 j0 v 0 m else 0) = smR g A c m + (if g 7 m = c ∧ g 9 m ≠ 20000 then A 0 m else 0) + _
    rw [smR_u e0 e1 e2 e3, e3]
    by_cases e : m = j0
    · subst e
      rw [u2_e, if_neg (fun q => by omega), Int32.add_zero, if_neg (c := g 7 m = c ∧ g 9 m ≠ 20000) (fun q => q.2 e0), Int32.add_zero]
      by_cases w : g 7 m = c
      · rw [if_pos ⟨w, e1⟩, if_pos ⟨Nat.lt_succ_self m, w⟩]
      · rw [if_neg (fun q => w q.1), if_neg (fun q => w q.2)]
    · rw [u2_j e, e2 m e]
      have : (j0 < m + 1 ∧ g 7 j0 = c) ↔ (j0 < m ∧ g 7 j0 = c) := ⟨fun q => ⟨by omega, q.2⟩, fun q => ⟨by omega, q.2⟩⟩
      simp only [this]
      rw [Int32.add_assoc, Int32.add_comm (if j0 < m ∧ g 7 j0 = c then v else 0), ← Int32.add_assoc]
def closF (F : FT) (t r : Nat) : FT := u2 (u2 (u2 F 106 (r - 1) (F 106 (r - 1) + F 1 0 * ((F 105 t + nI 9) / nI 10))) 103 t (nI 0)) 105 t (nI 0)
theorem coF_o {F : FT} {t r s j : Nat} (h : s ≠ 106 ∧ s ≠ 103 ∧ s ≠ 105) : closF F t r s j = F s j := by
  unfold closF
  rw [u2_s h.2.2, u2_s h.2.1, u2_s h.1]
theorem coF_103 {F : FT} {t r i : Nat} : closF F t r 103 i = if i = t then nI 0 else F 103 i := by
  unfold closF
  rw [u2_s (by decide)]
  by_cases e : i = t
  · rw [if_pos e, e, u2_e]
  · rw [if_neg e, u2_j e, u2_s (by decide)]
theorem coF_105 {F : FT} {t r i : Nat} : closF F t r 105 i = if i = t then nI 0 else F 105 i := by
  unfold closF
  by_cases e : i = t
  · rw [if_pos e, e, u2_e]
  · rw [if_neg e, u2_j e, u2_s (by decide), u2_s (by decide)]
theorem coF_106 {F : FT} {t r i : Nat} : closF F t r 106 i = if i = r - 1 then F 106 (r - 1) + (F 105 t + nI 9) / nI 10 * F 1 0 else F 106 i := by
  unfold closF
  rw [u2_s (by decide), u2_s (by decide), Int32.mul_comm (F 1 0)]
  by_cases e : i = r - 1
  · rw [if_pos e, e, u2_e]
  · rw [if_neg e, u2_j e]
theorem owe_close {F : FT} {t r c : Nat} : owe (closF F t r) c = owe F c + (if r - 1 = c then (F 105 t + nI 9) / nI 10 * F 1 0 else 0) := by
  unfold owe
  rw [coF_106, lastW_congr (p := fun k => closF F t r 107 k = nI (c + 1)) (q := fun k => F 107 k = nI (c + 1)) (fun j _ => by rw [coF_o (by decide)])]
  by_cases e : r - 1 = c
  · subst e
    rw [if_pos rfl, if_pos rfl, Int32.add_assoc, Int32.add_comm ((F 105 t + nI 9) / nI 10 * F 1 0), ← Int32.add_assoc]
  · rw [if_neg (fun q => e q.symm), if_neg e, Int32.add_zero]
def closG (g : GN) (t : Nat) : GN := fun s j => if s = 0 ∧ j = t then 0 else if s = 24 ∧ j = t then 0 else if s = 9 ∧ j = g 2 t then g 15 0 else if s = 10 ∧ j = g 2 t then g 24 t else g s j
theorem cG_o {g : GN} {t s j : Nat} (h : s ≠ 0 ∧ s ≠ 24 ∧ s ≠ 9 ∧ s ≠ 10) : closG g t s j = g s j := by
  unfold closG
  rw [if_neg (by omega), if_neg (by omega), if_neg (by omega), if_neg (by omega)]
theorem cG_0 {g : GN} {t i : Nat} : closG g t 0 i = if i = t then 0 else g 0 i := by
  unfold closG
  by_cases e : i = t
  · rw [if_pos e, if_pos ⟨rfl, e⟩]
  · rw [if_neg e, if_neg (by omega), if_neg (by omega), if_neg (by omega), if_neg (by omega)]
theorem cG_24 {g : GN} {t i : Nat} : closG g t 24 i = if i = t then 0 else g 24 i := by
  unfold closG
  rw [if_neg (by omega)]
  by_cases e : i = t
  · rw [if_pos e, if_pos ⟨rfl, e⟩]
  · rw [if_neg e, if_neg (by omega), if_neg (by omega), if_neg (by omega)]
theorem cG_9 {g : GN} {t i : Nat} : closG g t 9 i = if i = g 2 t then g 15 0 else g 9 i := by
  unfold closG
  rw [if_neg (by omega), if_neg (by omega)]
  by_cases e : i = g 2 t
  · rw [if_pos e, if_pos ⟨rfl, e⟩]
  · rw [if_neg e, if_neg (by omega), if_neg (by omega)]
theorem cG_10 {g : GN} {t i : Nat} : closG g t 10 i = if i = g 2 t then g 24 t else g 10 i := by
  unfold closG
  rw [if_neg (by omega), if_neg (by omega), if_neg (by omega)]
  by_cases e : i = g 2 t
  · rw [if_pos e, if_pos ⟨rfl, e⟩]
  · rw [if_neg e, if_neg (by omega)]
theorem CIu_close {n : Nat} {Z : HS} {F A : FT} {g : GN} (h : CI n Z F g A) {t : Nat} (ht : t < 4) (hz : g 0 t ≠ 0) : CI n (sA (sR (sI (sI Z 5 3 (500000 + g 2 t) (nI (g 15 0))) 5 4 (500000 + g 2 t) (F 1 0)) 7 1 (700000 + t) none) 1800006 (g 0 t - 1) (owe F (g 0 t - 1) + ((F 105 t + nI 9) / nI 10 * F 1 0))) (closF F t (g 0 t)) (closG g t) (u2 A 0 (g 2 t) ((F 105 t + nI 9) / nI 10 * F 1 0)) := by
  have h0 := h
  obtain ⟨hH, ⟨hPI, hPG, hZo⟩, ⟨hZh, hZd, hZw⟩, ⟨hZt, hZc, hZf⟩, ⟨hZr, hZs, hZl⟩, hZfr, hZbd⟩ := h0
  have hb := hZbd
  unfold Zbd at hb
  have now := hPI.1.1.2
  have tt := hPI.2.1 t ht
  obtain ⟨k1, k2, k3, k4, k5⟩ := hPG.2.1 t ht hz
  have ne2 : ∀ i, i < 4 → i ≠ t → g 0 i ≠ 0 → g 2 i ≠ g 2 t := fun i hi e q w => e (by have := (hPG.2.1 i hi q).2.1; rw [w] at this; omega)
  have lmE : ∀ i st en k, lmS (closG g t) i st en k = lmS g i st en k := fun i st en k => lmS_c (fun s _ => ⟨cG_o (by decide), cG_o (by decide), cG_o (by decide)⟩)
  have lI : ∀ c9 k9 a9, ¬ (c9 = 5 ∧ k9 = 3 ∧ a9 = (500000 + g 2 t)) → ¬ (c9 = 5 ∧ k9 = 4 ∧ a9 = (500000 + g 2 t)) → xI (sA (sR (sI (sI Z 5 3 (500000 + g 2 t) (nI (g 15 0))) 5 4 (500000 + g 2 t) (F 1 0)) 7 1 (700000 + t) none) 1800006 (g 0 t - 1) (owe F (g 0 t - 1) + ((F 105 t + nI 9) / nI 10 * F 1 0))) c9 k9 a9 = xI Z c9 k9 a9 := fun c9 k9 a9 w0 w1 => by rw [xI_sA', xI_sR', xI_sI w1, xI_sI w0]
  have mI0 : xI (sA (sR (sI (sI Z 5 3 (500000 + g 2 t) (nI (g 15 0))) 5 4 (500000 + g 2 t) (F 1 0)) 7 1 (700000 + t) none) 1800006 (g 0 t - 1) (owe F (g 0 t - 1) + ((F 105 t + nI 9) / nI 10 * F 1 0))) 5 3 (500000 + g 2 t) = (nI (g 15 0)) := by rw [xI_sA', xI_sR', xI_sI (by first | decide | omega), xI_sIe]
  have mI1 : xI (sA (sR (sI (sI Z 5 3 (500000 + g 2 t) (nI (g 15 0))) 5 4 (500000 + g 2 t) (F 1 0)) 7 1 (700000 + t) none) 1800006 (g 0 t - 1) (owe F (g 0 t - 1) + ((F 105 t + nI 9) / nI 10 * F 1 0))) 5 4 (500000 + g 2 t) = (F 1 0) := by rw [xI_sA', xI_sR', xI_sIe]
  have lR : ∀ c9 k9 a9, ¬ (c9 = 7 ∧ k9 = 1 ∧ a9 = (700000 + t)) → xR (sA (sR (sI (sI Z 5 3 (500000 + g 2 t) (nI (g 15 0))) 5 4 (500000 + g 2 t) (F 1 0)) 7 1 (700000 + t) none) 1800006 (g 0 t - 1) (owe F (g 0 t - 1) + ((F 105 t + nI 9) / nI 10 * F 1 0))) c9 k9 a9 = xR Z c9 k9 a9 := fun c9 k9 a9 w0 => by rw [xR_sA', xR_sR w0, xR_sI', xR_sI']
  have mR0 : xR (sA (sR (sI (sI Z 5 3 (500000 + g 2 t) (nI (g 15 0))) 5 4 (500000 + g 2 t) (F 1 0)) 7 1 (700000 + t) none) 1800006 (g 0 t - 1) (owe F (g 0 t - 1) + ((F 105 t + nI 9) / nI 10 * F 1 0))) 7 1 (700000 + t) = none := by rw [xR_sA', xR_sRe]
  have lA : ∀ a9 i9, ¬ (a9 = 1800006 ∧ i9 = (g 0 t - 1)) → xA (sA (sR (sI (sI Z 5 3 (500000 + g 2 t) (nI (g 15 0))) 5 4 (500000 + g 2 t) (F 1 0)) 7 1 (700000 + t) none) 1800006 (g 0 t - 1) (owe F (g 0 t - 1) + ((F 105 t + nI 9) / nI 10 * F 1 0))) a9 i9 = xA Z a9 i9 := fun a9 i9 w0 => by rw [xA_sA w0, xA_sR', xA_sI', xA_sI']
  have mA0 : xA (sA (sR (sI (sI Z 5 3 (500000 + g 2 t) (nI (g 15 0))) 5 4 (500000 + g 2 t) (F 1 0)) 7 1 (700000 + t) none) 1800006 (g 0 t - 1) (owe F (g 0 t - 1) + ((F 105 t + nI 9) / nI 10 * F 1 0))) 1800006 (g 0 t - 1) = (owe F (g 0 t - 1) + ((F 105 t + nI 9) / nI 10 * F 1 0)) := by rw [xA_sAe]
  have lP : xP (sA (sR (sI (sI Z 5 3 (500000 + g 2 t) (nI (g 15 0))) 5 4 (500000 + g 2 t) (F 1 0)) 7 1 (700000 + t) none) 1800006 (g 0 t - 1) (owe F (g 0 t - 1) + ((F 105 t + nI 9) / nI 10 * F 1 0))) = xP Z := by rw [xP_sA', xP_sR', xP_sI', xP_sI']
  have lJ : xJ (sA (sR (sI (sI Z 5 3 (500000 + g 2 t) (nI (g 15 0))) 5 4 (500000 + g 2 t) (F 1 0)) 7 1 (700000 + t) none) 1800006 (g 0 t - 1) (owe F (g 0 t - 1) + ((F 105 t + nI 9) / nI 10 * F 1 0))) = xJ Z := by rw [xJ_sA', xJ_sR', xJ_sI', xJ_sI']
  have lK : xK (sA (sR (sI (sI Z 5 3 (500000 + g 2 t) (nI (g 15 0))) 5 4 (500000 + g 2 t) (F 1 0)) 7 1 (700000 + t) none) 1800006 (g 0 t - 1) (owe F (g 0 t - 1) + ((F 105 t + nI 9) / nI 10 * F 1 0))) = xK Z := by rw [xK_sA', xK_sR', xK_sI', xK_sI']
  have lN : xn (sA (sR (sI (sI Z 5 3 (500000 + g 2 t) (nI (g 15 0))) 5 4 (500000 + g 2 t) (F 1 0)) 7 1 (700000 + t) none) 1800006 (g 0 t - 1) (owe F (g 0 t - 1) + ((F 105 t + nI 9) / nI 10 * F 1 0))) = xn Z := by rw [xn_sA', xn_sR', xn_sI', xn_sI']
  generalize sA (sR (sI (sI Z 5 3 (500000 + g 2 t) (nI (g 15 0))) 5 4 (500000 + g 2 t) (F 1 0)) 7 1 (700000 + t) none) 1800006 (g 0 t - 1) (owe F (g 0 t - 1) + ((F 105 t + nI 9) / nI 10 * F 1 0)) = L at *
  refine ⟨SH_t hH lK lN (fun c k a hc => lR _ _ _ (fun w => by omega)) (fun a i ha => by rw [lP]), ⟨⟨?_, fun i hi => ?_, fun v hv => ?_, fun v w hv hw => ?_, fun f hf' => ?_, fun f hf' => ?_⟩, ⟨fun j hj => ?_, fun i hi hz' => ?_, fun s hs => ?_, fun i hi => ?_, fun v hv => ?_⟩, fun c' hc' => ?_⟩, ⟨Zh_t hZh (fun k => lI _ _ _ (fun w => absurd w.1 (by decide)) (fun w => absurd w.1 (by decide))) (coF_o (by decide)) (fun s h1 h2 => cG_o (by omega)), fun c' hc' => ?_, Zw_t hZw (fun i => lA _ _ (fun w => absurd w.1 (by decide))) (fun c' => ?_)⟩, ⟨fun i hi => ?_, Zc_t hZc (fun k a => ⟨lI _ _ _ (fun w => absurd w.1 (by decide)) (fun w => absurd w.1 (by decide)), lI _ _ _ (fun w => absurd w.1 (by decide)) (fun w => absurd w.1 (by decide))⟩) (fun k a => lR _ _ _ (fun w => absurd w.1 (by decide))) (fun u => ⟨coF_o (by decide), coF_o (by decide)⟩) (fun u => ⟨cG_o (by decide), cG_o (by decide)⟩), Zf_t hZf hPI.1.2.2 (fun f hf => by rw [lK, lN]; exact ⟨rfl, rfl, rfl⟩) (fun k f _ => lI _ _ _ (fun w => absurd w.1 (by decide)) (fun w => absurd w.1 (by decide))) (fun k f _ => lR _ _ _ (fun w => absurd w.1 (by decide))) (fun f j hf => lA _ _ (fun w => by omega)) (fun f => by rw [lP]) (fun s j h1 h2 => coF_o (by omega)) ⟨cG_o (by decide), fun f => cG_o (by decide)⟩⟩, ⟨fun j hj => ?_, Zs_t hZs (fun j _ => by rw [lK]) (fun k a => lI _ _ _ (fun w => absurd w.1 (by decide)) (fun w => absurd w.1 (by decide))) (fun i => by rw [lP]) (cG_o (by decide)) (fun s j h1 h2 => cG_o (by omega)), Zl_t hZl (fun j _ => by rw [lK]) (fun k a => lI _ _ _ (fun w => absurd w.1 (by decide)) (fun w => absurd w.1 (by decide))) (fun i => by rw [lP]) (fun j => u2_s (by decide)) (cG_o (by decide)) (fun j => cG_o (by decide))⟩, Zfr_t hZfr (fun a => by rw [lK]) (fun s h1 h2 => cG_o (by omega)), ?_⟩
  · rw [coF_o (by decide), coF_o (by decide), cG_o (by decide), cG_o (by decide)]; exact hPI.1
  · rw [coF_o (by decide), coF_103, coF_o (by decide), coF_105, cG_0, cG_24, cG_o (s := 1) (by decide), cG_o (s := 16) (by decide), cG_o (s := 15) (by decide), cG_o (s := 23) (by decide)]
    have := hPI.2.1 i hi
    by_cases e : i = t
    · rw [if_pos e, if_pos e, if_pos e, if_pos e]
      exact ⟨this.1, ⟨rfl, by omega⟩, this.2.2.1, ⟨rfl, by omega⟩, fun _ => rfl, this.2.2.2.2.2⟩
    · rw [if_neg e, if_neg e, if_neg e, if_neg e]
      exact this
  · rw [coF_o (by decide), coF_o (by decide), cG_o (by decide)]; exact hPI.2.2.1 v hv
  · rw [cG_o (by decide), cG_o (by decide)]; exact hPI.2.2.2.1 v w hv hw
  · rw [cG_o (by decide)] at hf'
    exact FrP_t (hPI.2.2.2.2.1 f hf') (fun s j h1 h2 => coF_o (by omega)) (fun s h1 h2 => cG_o (by omega)) (fun i => cG_o (by decide))
  · rw [cG_o (by decide)] at hf'
    rw [coF_o (by decide), coF_o (by decide), coF_o (by decide), coF_o (by decide), coF_o (by decide)]
    exact hPI.2.2.2.2.2 f hf'
  · rw [cG_o (by decide)] at hj
    have := hPG.1 j hj
    rw [lmE, cG_o (s := 6) (by decide), cG_o (s := 7) (by decide), cG_o (s := 8) (by decide), cG_9, cG_10, cG_o (s := 15) (by decide), cG_o (s := 18) (by decide)]
    by_cases e : j = g 2 t
    · rw [if_pos e, if_pos e]
      subst e
      exact ⟨this.1, this.2.1, this.2.2.1, fun _ => ⟨Nat.le_refl _, by rw [k2]; exact k5⟩⟩
    · rw [if_neg e, if_neg e]; exact this
  · rw [cG_0] at hz'
    have ei : i ≠ t := fun q => hz' (if_pos q)
    rw [if_neg ei] at hz'
    rw [lmE, cG_0, if_neg ei, cG_24, if_neg ei, cG_o (s := 2) (by decide), cG_o (s := 6) (by decide), cG_o (s := 7) (by decide), cG_o (s := 8) (by decide), cG_9, if_neg (ne2 i hi ei hz'), cG_o (s := 15) (by decide), cG_o (s := 17) (by decide), cG_o (s := 18) (by decide)]
    exact hPG.2.1 i hi hz'
  · rw [cG_o (s := 18) (by decide)] at hs
    have := hPG.2.2.1 s hs
    unfold leag at this ⊢
    rw [cG_o (s := 12) (by decide), cG_o (s := 13) (by decide), cG_o (s := 11) (by decide), cG_o (s := 15) (by decide), cG_o (s := 1) (by decide), cG_o (s := 3) (by decide), coF_o (by decide)]
    exact this
  · have := hPG.2.2.2.1 i hi
    unfold leag at this ⊢
    rw [cG_o (s := 1) (by decide), cG_o (s := 3) (by decide), coF_o (by decide), cG_o (s := 18) (by decide), cG_o (s := 13) (by decide), cG_o (s := 11) (by decide)]
    exact this
  · rw [cG_o (s := 4) (by decide), cG_o (s := 5) (by decide), cG_o (s := 19) (by decide), cG_o (s := 14) (by decide)]
    exact hPG.2.2.2.2 v hv
  · rw [cG_o (s := 17) (by decide), cG_o (s := 19) (by decide), smR_u (g := g) (A := A) k4 (by rw [cG_9, if_pos rfl]; omega) (fun j e => by rw [cG_9, if_neg e]) (fun j => cG_o (by decide)), smL_c (g := g) (A := A) (fun l _ => ⟨cG_o (by decide), u2_s (by decide)⟩), owe_close, ← hZo c' hc']
    have e9 : (g 2 t < g 17 0 ∧ g 7 (g 2 t) = c') ↔ (g 0 t - 1 = c') := ⟨fun q => by omega, fun q => ⟨k1, by omega⟩⟩
    simp only [e9]
    rw [Int32.add_assoc, Int32.add_comm (if g 0 t - 1 = c' then _ else _), ← Int32.add_assoc]
  · rw [owe_close]
    by_cases e : c' = g 0 t - 1
    · subst e
      rw [if_pos rfl, mA0]
    · rw [if_neg (fun q => e q.symm), Int32.add_zero, lA _ _ (fun w => e w.2)]
      exact hZd c' hc'
  · rw [cG_o (by decide)]
    exact cnt_congr (fun j _ => by rw [coF_o (by decide), coF_o (by decide)])
  · have := hZt i hi
    unfold leag at this ⊢
    rw [lI 7 0 _ (fun w => absurd w.1 (by decide)) (fun w => absurd w.1 (by decide)), lI 7 2 _ (fun w => absurd w.1 (by decide)) (fun w => absurd w.1 (by decide)), lR 7 3 _ (fun w => absurd w.2.1 (by decide)), lR 7 4 _ (fun w => absurd w.2.1 (by decide)), b2_eq (q := F 102 i = 0) (by rw [coF_o (by decide)]), cG_0, cG_o (s := 1) (by decide), cG_o (s := 2) (by decide), cG_o (s := 3) (by decide), coF_o (s := 112) (by decide), coF_105]
    by_cases e : i = t
    · rw [if_pos e, if_pos e, e, mR0]
      rw [e] at this
      exact ⟨this.1, fun _ => rfl, fun q => absurd rfl q, this.2.2.2⟩
    · rw [if_neg e, if_neg e, lR 7 1 _ (fun w => by omega)]
      exact this
  · rw [cG_o (by decide)] at hj
    have := hZr j hj
    rw [lK, lP, lI 5 0 _ (fun w => absurd w.2.1 (by decide)) (fun w => absurd w.2.1 (by decide)), lI 5 1 _ (fun w => absurd w.2.1 (by decide)) (fun w => absurd w.2.1 (by decide)), lI 5 2 _ (fun w => absurd w.2.1 (by decide)) (fun w => absurd w.2.1 (by decide)), cG_o (s := 6) (by decide), cG_o (s := 7) (by decide), cG_o (s := 8) (by decide), cG_9, cG_10]
    by_cases e : j = g 2 t
    · subst e
      rw [if_pos rfl, if_pos rfl, if_neg (by omega), u2_e, mI0, mI1, tt.2.2.2.1.1]
      exact ⟨this.1, this.2.1, this.2.2.1, rfl, fun _ => rfl⟩
    · rw [if_neg e, if_neg e, u2_j e, lI 5 3 _ (fun w => e (by omega)) (fun w => absurd w.2.1 (by decide)), lI 5 4 _ (fun w => absurd w.2.1 (by decide)) (fun w => e (by omega))]
      exact this
  · unfold Zbd
    rw [cG_o (by decide), cG_o (by decide), cG_o (by decide)]
    omega
