-- ===== endRental =====
theorem C_rclose {Γ : GTy} {Z : HS} {q : Nat} (hk : xK Z q = 5) (w p : Int32) : Tn Γ M_X5_close [.ref q, .int w, .int p] Z (rt none (sI (sI Z 5 3 q w) 5 4 q p)) := by
  refine Tn_of' rfl rfl rfl ?_
  show G Γ M_X5_close (rm M_X5_close) (Vn Γ M_X5_close (rt none (sI (sI Z 5 3 q w) 5 4 q p))) (0, 0) 0 [some (.ref q), some (.int w), some (.int p)] [] Z
  refine G_aload_n (pc := 0) dX5_close_0 rfl ?_
  refine G_iload_n (pc := 1) dX5_close_1 rfl ?_
  refine G_putI (pc := 2) fl_X5_9 fw_5_3 hk rfl dX5_close_2 ?_
  refine G_aload_n (pc := 5) dX5_close_5 rfl ?_
  refine G_iload_n (pc := 6) dX5_close_6 rfl ?_
  refine G_putI (pc := 7) fl_X5_24 fw_5_4 hk rfl dX5_close_7 ?_
  refine G_vret (pc := 10) VZ.n dX5_close_10 rfl ⟨by decide, by decide⟩ ?_
  exact ⟨rfl, rfl⟩
theorem C_endR0 {Γ : GTy} {Z : HS} {n : Nat} {F A : FT} {g : GN} (h : CI n Z F g A) {t : Nat} (ht : t < 4) (hz : g 0 t = 0) : Tn Γ M_X9_endRental [.ref 800000, .ref (700000 + t)] Z (rt (some (.int (nI 0))) Z) := by
  refine Tn_of' rfl rfl rfl ?_
  show G Γ M_X9_endRental (rm M_X9_endRental) (Vn Γ M_X9_endRental (rt (some (.int (nI 0))) Z)) (0, 0) 0 [some (.ref 800000), some (.ref (700000 + t)), none, none] [] Z
  have h0 := h
  obtain ⟨hH, ⟨hPI, hPG, hZo⟩, ⟨hZh, hZd, hZw⟩, ⟨hZt, hZc, hZf⟩, ⟨hZr, hZs, hZl⟩, hZfr, hZbd⟩ := h0
  refine G_aload_n (pc := 0) dX9_endRental_0 rfl ?_
  refine G_getN (pc := 1) fl_X9_87 (hH.2.2.1 t ht).1 rfl ((hZt t ht).2.1 hz) dX9_endRental_1 ?_
  refine G_astore_nN (pc := 4) dX9_endRental_4 (by decide) ?_
  refine G_aload_nN (pc := 5) dX9_endRental_5 rfl ?_
  refine G_ifnonnull_n (pc := 6) dX9_endRental_6 ?_
  refine G_iconst (pc := 9) (v := nI 0) dX9_endRental_9 (by first | rfl | decide) ?_
  refine G_iret (pc := 10) VZ.n dX9_endRental_10 rfl ⟨by decide, by decide⟩ ?_
  exact ⟨rfl, rfl⟩
theorem C_endR1 {Γ : GTy} {Z : HS} {n : Nat} {F A : FT} {g : GN} (h : CI n Z F g A) {t : Nat} (ht : t < 4) (hz : g 0 t ≠ 0) (h1 : g 1 t = 0) : Tn Γ M_X9_endRental [.ref 800000, .ref (700000 + t)] Z (rt (some (.int ((F 105 t + nI 9) / nI 10 * F 1 0))) (sA (sR (sI (sI Z 5 3 (500000 + g 2 t) (nI (g 15 0))) 5 4 (500000 + g 2 t) (F 1 0)) 7 1 (700000 + t) none) 1800006 (g 0 t - 1) (owe F (g 0 t - 1) + ((F 105 t + nI 9) / nI 10 * F 1 0)))) := by
  refine Tn_of' rfl rfl rfl ?_
  show G Γ M_X9_endRental (rm M_X9_endRental) (Vn Γ M_X9_endRental (rt (some (.int ((F 105 t + nI 9) / nI 10 * F 1 0))) (sA (sR (sI (sI Z 5 3 (500000 + g 2 t) (nI (g 15 0))) 5 4 (500000 + g 2 t) (F 1 0)) 7 1 (700000 + t) none) 1800006 (g 0 t - 1) (owe F (g 0 t - 1) + ((F 105 t + nI 9) / nI 10 * F 1 0))))) (0, 0) 0 [some (.ref 800000), some (.ref (700000 + t)), none, none] [] Z
  have h0 := h
  obtain ⟨hH, ⟨hPI, hPG, hZo⟩, ⟨hZh, hZd, hZw⟩, ⟨hZt, hZc, hZf⟩, ⟨hZr, hZs, hZl⟩, hZfr, hZbd⟩ := h0
  obtain ⟨j1, j2, j3, j4, j5⟩ := hPG.2.1 t ht hz
  have k5 := (hZr _ j1).1
  have c8 : g 0 t - 1 < 8 := by have := (hPI.2.1 t ht).2.1.2; omega
  have s72 : xI (sR (sI (sI Z 5 3 (500000 + g 2 t) (nI (g 15 0))) 5 4 (500000 + g 2 t) (F 1 0)) 7 1 (700000 + t) none) 7 2 (700000 + t) = F 105 t := by rw [xI_sR', xI_sI (fun w => absurd w.1 (by decide)), xI_sI (fun w => absurd w.1 (by decide))]; exact ((hZt t ht).2.2.1 hz).2
  have s51 : xI (sR (sI (sI Z 5 3 (500000 + g 2 t) (nI (g 15 0))) 5 4 (500000 + g 2 t) (F 1 0)) 7 1 (700000 + t) none) 5 1 (500000 + g 2 t) = nI (g 0 t - 1) := by rw [xI_sR', xI_sI (fun w => absurd w.2.1 (by decide)), xI_sI (fun w => absurd w.2.1 (by decide)), (hZr _ j1).2.2.1.2.1, show g 7 (g 2 t) = g 0 t - 1 by omega]
  have s14 : xI (sR (sI (sI Z 5 3 (500000 + g 2 t) (nI (g 15 0))) 5 4 (500000 + g 2 t) (F 1 0)) 7 1 (700000 + t) none) 8 14 800000 = F 1 0 := by rw [xI_sR', xI_sI (fun w => absurd w.1 (by decide)), xI_sI (fun w => absurd w.1 (by decide))]; exact hZh.2.2.1
  have kS : SH (sR (sI (sI Z 5 3 (500000 + g 2 t) (nI (g 15 0))) 5 4 (500000 + g 2 t) (F 1 0)) 7 1 (700000 + t) none) := SH_t hH (by rw [xK_sR', xK_sI', xK_sI']) (by rw [xn_sR', xn_sI', xn_sI']) (fun c k a hc => by rw [xR_sR (by omega), xR_sI', xR_sI']) (fun a i ha => by rw [xP_sR', xP_sI', xP_sI'])
  have sd : xA (sR (sI (sI Z 5 3 (500000 + g 2 t) (nI (g 15 0))) 5 4 (500000 + g 2 t) (F 1 0)) 7 1 (700000 + t) none) 1800006 (g 0 t - 1) = owe F (g 0 t - 1) := by rw [xA_sR', xA_sI', xA_sI']; exact hZd _ c8
  have x73 : xR (sA (sR (sI (sI Z 5 3 (500000 + g 2 t) (nI (g 15 0))) 5 4 (500000 + g 2 t) (F 1 0)) 7 1 (700000 + t) none) 1800006 (g 0 t - 1) (owe F (g 0 t - 1) + ((F 105 t + nI 9) / nI 10 * F 1 0))) 7 3 (700000 + t) = xR Z 7 3 (700000 + t) := by rw [xR_sA', xR_sR (fun w => absurd w.2.1 (by decide)), xR_sI', xR_sI']
  have x23 : ∀ a, xI (sA (sR (sI (sI Z 5 3 (500000 + g 2 t) (nI (g 15 0))) 5 4 (500000 + g 2 t) (F 1 0)) 7 1 (700000 + t) none) 1800006 (g 0 t - 1) (owe F (g 0 t - 1) + ((F 105 t + nI 9) / nI 10 * F 1 0))) 2 3 a = xI Z 2 3 a := fun a => by rw [xI_sA', xI_sR', xI_sI (fun w => absurd w.1 (by decide)), xI_sI (fun w => absurd w.1 (by decide))]
  have xkk : ∀ a, xK (sA (sR (sI (sI Z 5 3 (500000 + g 2 t) (nI (g 15 0))) 5 4 (500000 + g 2 t) (F 1 0)) 7 1 (700000 + t) none) 1800006 (g 0 t - 1) (owe F (g 0 t - 1) + ((F 105 t + nI 9) / nI 10 * F 1 0))) a = xK Z a := fun a => by rw [xK_sA', xK_sR', xK_sI', xK_sI']
  refine G_aload_n (pc := 0) dX9_endRental_0 rfl ?_
  refine G_getS (pc := 1) fl_X9_87 (hH.2.2.1 t ht).1 rfl ((hZt t ht).2.2.1 hz).1 dX9_endRental_1 ?_
  refine G_astore_n (pc := 4) dX9_endRental_4 (by decide) ?_
  refine G_aload_n (pc := 5) dX9_endRental_5 rfl ?_
  refine G_ifnonnull_r (pc := 6) (tgt := 11) dX9_endRental_6 (by decide) ?_
  refine G_aload_n (pc := 11) dX9_endRental_11 rfl ?_
  refine G_aload_n (pc := 12) dX9_endRental_12 rfl ?_
  refine G_getIv (pc := 13) (c := 8) (i := 15) (v := nI (g 15 0)) hZh.2.2.2 fl_X9_102 (sh_k hH) rfl dX9_endRental_13 ?_
  refine G_aload_n (pc := 16) dX9_endRental_16 rfl ?_
  refine G_getIv (pc := 17) (c := 8) (i := 14) (v := F 1 0) hZh.2.2.1 fl_X9_65 (sh_k hH) rfl dX9_endRental_17 ?_
  refine K_Vn2v (pc := 20) (k' := (0, 0)) mok_X5_close lk_X9_312 k5 rfl rfl rfl (aok0 rfl) dX9_endRental_20 (C_rclose k5 (nI (g 15 0)) (F 1 0)) rfl ?_
  refine G_aload_n (pc := 23) dX9_endRental_23 rfl ?_
  refine G_null (pc := 24) dX9_endRental_24 ?_
  refine G_putR (pc := 25) (o := none) rfl (fun _ h => nomatch h) fl_X9_87 fw_7_1 (hH.2.2.1 t ht).1 rfl dX9_endRental_25 ?_
  refine G_aload_n (pc := 28) dX9_endRental_28 rfl ?_
  refine G_getIv (pc := 29) (c := 7) (i := 2) (v := F 105 t) s72 fl_X9_107 (hH.2.2.1 t ht).1 rfl dX9_endRental_29 ?_
  refine G_aload_n (pc := 32) dX9_endRental_32 rfl ?_
  refine G_getIv (pc := 33) (c := 8) (i := 14) (v := F 1 0) s14 fl_X9_65 (sh_k hH) rfl dX9_endRental_33 ?_
  refine K_Sn2r (pc := 36) (k' := (0, 0)) mok_X9_billFor lk_X9_314 rfl (aok0 rfl) dX9_endRental_36 (C_billFor (F 105 t) (F 1 0)) rfl ?_
  refine G_istore_n (pc := 39) dX9_endRental_39 (by decide) ?_
  refine G_aload_n (pc := 40) dX9_endRental_40 rfl ?_
  refine G_aload_n (pc := 41) dX9_endRental_41 rfl ?_
  refine G_getIv (pc := 42) (c := 5) (i := 1) (v := nI (g 0 t - 1)) s51 fl_X9_256 k5 rfl dX9_endRental_42 ?_
  refine G_iload_n (pc := 45) dX9_endRental_45 rfl ?_
  refine K_Vn2v (pc := 46) (k' := (0, 0)) mok_X9_addDebt lk_X9_240 (sh_k kS) rfl rfl rfl (aok0 rfl) dX9_endRental_46 (C_addDebt kS c8 sd ((F 105 t + nI 9) / nI 10 * F 1 0)) rfl ?_
  refine G_aload_n (pc := 49) dX9_endRental_49 rfl ?_
  refine G_getN (pc := 50) fl_X9_257 (hH.2.2.1 t ht).1 rfl (x73.trans ((hZt t ht).2.2.2.1 h1)) dX9_endRental_50 ?_
  refine G_ifnull_n (pc := 53) (tgt := 71) dX9_endRental_53 (by decide) ?_
  refine G_iload_n (pc := 71) dX9_endRental_71 rfl ?_
  refine G_iret (pc := 72) VZ.n dX9_endRental_72 rfl ⟨by decide, by decide⟩ ?_
  exact ⟨rfl, rfl⟩
theorem C_endR2 {Γ : GTy} {Z : HS} {n : Nat} {F A : FT} {g : GN} (h : CI n Z F g A) {t : Nat} (ht : t < 4) (hz : g 0 t ≠ 0) (h1 : g 1 t ≠ 0) (h2 : ¬ F 112 (g 1 t - 1) = 0) : Tn Γ M_X9_endRental [.ref 800000, .ref (700000 + t)] Z (rt (some (.int ((F 105 t + nI 9) / nI 10 * F 1 0))) (sA (sR (sI (sI Z 5 3 (500000 + g 2 t) (nI (g 15 0))) 5 4 (500000 + g 2 t) (F 1 0)) 7 1 (700000 + t) none) 1800006 (g 0 t - 1) (owe F (g 0 t - 1) + ((F 105 t + nI 9) / nI 10 * F 1 0)))) := by
  refine Tn_of' rfl rfl rfl ?_
  show G Γ M_X9_endRental (rm M_X9_endRental) (Vn Γ M_X9_endRental (rt (some (.int ((F 105 t + nI 9) / nI 10 * F 1 0))) (sA (sR (sI (sI Z 5 3 (500000 + g 2 t) (nI (g 15 0))) 5 4 (500000 + g 2 t) (F 1 0)) 7 1 (700000 + t) none) 1800006 (g 0 t - 1) (owe F (g 0 t - 1) + ((F 105 t + nI 9) / nI 10 * F 1 0))))) (0, 0) 0 [some (.ref 800000), some (.ref (700000 + t)), none, none] [] Z
  have h0 := h
  obtain ⟨hH, ⟨hPI, hPG, hZo⟩, ⟨hZh, hZd, hZw⟩, ⟨hZt, hZc, hZf⟩, ⟨hZr, hZs, hZl⟩, hZfr, hZbd⟩ := h0
  obtain ⟨j1, j2, j3, j4, j5⟩ := hPG.2.1 t ht hz
  have k5 := (hZr _ j1).1
  have c8 : g 0 t - 1 < 8 := by have := (hPI.2.1 t ht).2.1.2; omega
  have s72 : xI (sR (sI (sI Z 5 3 (500000 + g 2 t) (nI (g 15 0))) 5 4 (500000 + g 2 t) (F 1 0)) 7 1 (700000 + t) none) 7 2 (700000 + t) = F 105 t := by rw [xI_sR', xI_sI (fun w => absurd w.1 (by decide)), xI_sI (fun w => absurd w.1 (by decide))]; exact ((hZt t ht).2.2.1 hz).2
  have s51 : xI (sR (sI (sI Z 5 3 (500000 + g 2 t) (nI (g 15 0))) 5 4 (500000 + g 2 t) (F 1 0)) 7 1 (700000 + t) none) 5 1 (500000 + g 2 t) = nI (g 0 t - 1) := by rw [xI_sR', xI_sI (fun w => absurd w.2.1 (by decide)), xI_sI (fun w => absurd w.2.1 (by decide)), (hZr _ j1).2.2.1.2.1, show g 7 (g 2 t) = g 0 t - 1 by omega]
  have s14 : xI (sR (sI (sI Z 5 3 (500000 + g 2 t) (nI (g 15 0))) 5 4 (500000 + g 2 t) (F 1 0)) 7 1 (700000 + t) none) 8 14 800000 = F 1 0 := by rw [xI_sR', xI_sI (fun w => absurd w.1 (by decide)), xI_sI (fun w => absurd w.1 (by decide))]; exact hZh.2.2.1
  have kS : SH (sR (sI (sI Z 5 3 (500000 + g 2 t) (nI (g 15 0))) 5 4 (500000 + g 2 t) (F 1 0)) 7 1 (700000 + t) none) := SH_t hH (by rw [xK_sR', xK_sI', xK_sI']) (by rw [xn_sR', xn_sI', xn_sI']) (fun c k a hc => by rw [xR_sR (by omega), xR_sI', xR_sI']) (fun a i ha => by rw [xP_sR', xP_sI', xP_sI'])
  have sd : xA (sR (sI (sI Z 5 3 (500000 + g 2 t) (nI (g 15 0))) 5 4 (500000 + g 2 t) (F 1 0)) 7 1 (700000 + t) none) 1800006 (g 0 t - 1) = owe F (g 0 t - 1) := by rw [xA_sR', xA_sI', xA_sI']; exact hZd _ c8
  have x73 : xR (sA (sR (sI (sI Z 5 3 (500000 + g 2 t) (nI (g 15 0))) 5 4 (500000 + g 2 t) (F 1 0)) 7 1 (700000 + t) none) 1800006 (g 0 t - 1) (owe F (g 0 t - 1) + ((F 105 t + nI 9) / nI 10 * F 1 0))) 7 3 (700000 + t) = xR Z 7 3 (700000 + t) := by rw [xR_sA', xR_sR (fun w => absurd w.2.1 (by decide)), xR_sI', xR_sI']
  have x23 : ∀ a, xI (sA (sR (sI (sI Z 5 3 (500000 + g 2 t) (nI (g 15 0))) 5 4 (500000 + g 2 t) (F 1 0)) 7 1 (700000 + t) none) 1800006 (g 0 t - 1) (owe F (g 0 t - 1) + ((F 105 t + nI 9) / nI 10 * F 1 0))) 2 3 a = xI Z 2 3 a := fun a => by rw [xI_sA', xI_sR', xI_sI (fun w => absurd w.1 (by decide)), xI_sI (fun w => absurd w.1 (by decide))]
  have xkk : ∀ a, xK (sA (sR (sI (sI Z 5 3 (500000 + g 2 t) (nI (g 15 0))) 5 4 (500000 + g 2 t) (F 1 0)) 7 1 (700000 + t) none) 1800006 (g 0 t - 1) (owe F (g 0 t - 1) + ((F 105 t + nI 9) / nI 10 * F 1 0))) a = xK Z a := fun a => by rw [xK_sA', xK_sR', xK_sI', xK_sI']
  have hf : g 1 t - 1 < g 16 0 := by have := (hPI.2.1 t ht).2.2.1.2; omega
  refine G_aload_n (pc := 0) dX9_endRental_0 rfl ?_
  refine G_getS (pc := 1) fl_X9_87 (hH.2.2.1 t ht).1 rfl ((hZt t ht).2.2.1 hz).1 dX9_endRental_1 ?_
  refine G_astore_n (pc := 4) dX9_endRental_4 (by decide) ?_
  refine G_aload_n (pc := 5) dX9_endRental_5 rfl ?_
  refine G_ifnonnull_r (pc := 6) (tgt := 11) dX9_endRental_6 (by decide) ?_
  refine G_aload_n (pc := 11) dX9_endRental_11 rfl ?_
  refine G_aload_n (pc := 12) dX9_endRental_12 rfl ?_
  refine G_getIv (pc := 13) (c := 8) (i := 15) (v := nI (g 15 0)) hZh.2.2.2 fl_X9_102 (sh_k hH) rfl dX9_endRental_13 ?_
  refine G_aload_n (pc := 16) dX9_endRental_16 rfl ?_
  refine G_getIv (pc := 17) (c := 8) (i := 14) (v := F 1 0) hZh.2.2.1 fl_X9_65 (sh_k hH) rfl dX9_endRental_17 ?_
  refine K_Vn2v (pc := 20) (k' := (0, 0)) mok_X5_close lk_X9_312 k5 rfl rfl rfl (aok0 rfl) dX9_endRental_20 (C_rclose k5 (nI (g 15 0)) (F 1 0)) rfl ?_
  refine G_aload_n (pc := 23) dX9_endRental_23 rfl ?_
  refine G_null (pc := 24) dX9_endRental_24 ?_
  refine G_putR (pc := 25) (o := none) rfl (fun _ h => nomatch h) fl_X9_87 fw_7_1 (hH.2.2.1 t ht).1 rfl dX9_endRental_25 ?_
  refine G_aload_n (pc := 28) dX9_endRental_28 rfl ?_
  refine G_getIv (pc := 29) (c := 7) (i := 2) (v := F 105 t) s72 fl_X9_107 (hH.2.2.1 t ht).1 rfl dX9_endRental_29 ?_
  refine G_aload_n (pc := 32) dX9_endRental_32 rfl ?_
  refine G_getIv (pc := 33) (c := 8) (i := 14) (v := F 1 0) s14 fl_X9_65 (sh_k hH) rfl dX9_endRental_33 ?_
  refine K_Sn2r (pc := 36) (k' := (0, 0)) mok_X9_billFor lk_X9_314 rfl (aok0 rfl) dX9_endRental_36 (C_billFor (F 105 t) (F 1 0)) rfl ?_
  refine G_istore_n (pc := 39) dX9_endRental_39 (by decide) ?_
  refine G_aload_n (pc := 40) dX9_endRental_40 rfl ?_
  refine G_aload_n (pc := 41) dX9_endRental_41 rfl ?_
  refine G_getIv (pc := 42) (c := 5) (i := 1) (v := nI (g 0 t - 1)) s51 fl_X9_256 k5 rfl dX9_endRental_42 ?_
  refine G_iload_n (pc := 45) dX9_endRental_45 rfl ?_
  refine K_Vn2v (pc := 46) (k' := (0, 0)) mok_X9_addDebt lk_X9_240 (sh_k kS) rfl rfl rfl (aok0 rfl) dX9_endRental_46 (C_addDebt kS c8 sd ((F 105 t + nI 9) / nI 10 * F 1 0)) rfl ?_
  refine G_aload_n (pc := 49) dX9_endRental_49 rfl ?_
  refine G_getS (pc := 50) fl_X9_257 (hH.2.2.1 t ht).1 rfl (x73.trans ((hZt t ht).2.2.2.2.1 h1)) dX9_endRental_50 ?_
  refine G_ifnull_r (pc := 53) dX9_endRental_53 ?_
  refine G_aload_n (pc := 56) dX9_endRental_56 rfl ?_
  refine G_getS (pc := 57) fl_X9_257 (hH.2.2.1 t ht).1 rfl (x73.trans ((hZt t ht).2.2.2.2.1 h1)) dX9_endRental_57 ?_
  refine G_getIv (pc := 60) (c := 2) (i := 3) (v := F 112 (g 1 t - 1)) ((x23 _).trans (hZf _ hf).2.2.1.2.2.2) fl_X9_173 ((xkk _).trans (hZf _ hf).1.1) rfl dX9_endRental_60 ?_
  refine G_if_ne (pc := 63) (tgt := 71) dX9_endRental_63 (by decide) (fun c63 => ?_) (fun c63 => ?_)
  · skip
    refine G_iload_n (pc := 71) dX9_endRental_71 rfl ?_
    refine G_iret (pc := 72) VZ.n dX9_endRental_72 rfl ⟨by decide, by decide⟩ ?_
    exact ⟨rfl, rfl⟩
  · exact absurd c63 h2
theorem C_endR3 {Γ : GTy} {Z : HS} {n : Nat} {F A : FT} {g : GN} (h : CI n Z F g A) {t : Nat} (ht : t < 4) (hz : g 0 t ≠ 0) (h1 : g 1 t ≠ 0) (h2 : F 112 (g 1 t - 1) = 0) {L : HS} (hT : Tn Γ M_X9_takeFrameOff [.ref 800000, .ref (700000 + t)] (sA (sR (sI (sI Z 5 3 (500000 + g 2 t) (nI (g 15 0))) 5 4 (500000 + g 2 t) (F 1 0)) 7 1 (700000 + t) none) 1800006 (g 0 t - 1) (owe F (g 0 t - 1) + ((F 105 t + nI 9) / nI 10 * F 1 0))) (rt none L)) : Tn Γ M_X9_endRental [.ref 800000, .ref (700000 + t)] Z (rt (some (.int ((F 105 t + nI 9) / nI 10 * F 1 0))) L) := by
  refine Tn_of' rfl rfl rfl ?_
  show G Γ M_X9_endRental (rm M_X9_endRental) (Vn Γ M_X9_endRental (rt (some (.int ((F 105 t + nI 9) / nI 10 * F 1 0))) L)) (0, 0) 0 [some (.ref 800000), some (.ref (700000 + t)), none, none] [] Z
  have h0 := h
  obtain ⟨hH, ⟨hPI, hPG, hZo⟩, ⟨hZh, hZd, hZw⟩, ⟨hZt, hZc, hZf⟩, ⟨hZr, hZs, hZl⟩, hZfr, hZbd⟩ := h0
  obtain ⟨j1, j2, j3, j4, j5⟩ := hPG.2.1 t ht hz
  have k5 := (hZr _ j1).1
  have c8 : g 0 t - 1 < 8 := by have := (hPI.2.1 t ht).2.1.2; omega
  have s72 : xI (sR (sI (sI Z 5 3 (500000 + g 2 t) (nI (g 15 0))) 5 4 (500000 + g 2 t) (F 1 0)) 7 1 (700000 + t) none) 7 2 (700000 + t) = F 105 t := by rw [xI_sR', xI_sI (fun w => absurd w.1 (by decide)), xI_sI (fun w => absurd w.1 (by decide))]; exact ((hZt t ht).2.2.1 hz).2
  have s51 : xI (sR (sI (sI Z 5 3 (500000 + g 2 t) (nI (g 15 0))) 5 4 (500000 + g 2 t) (F 1 0)) 7 1 (700000 + t) none) 5 1 (500000 + g 2 t) = nI (g 0 t - 1) := by rw [xI_sR', xI_sI (fun w => absurd w.2.1 (by decide)), xI_sI (fun w => absurd w.2.1 (by decide)), (hZr _ j1).2.2.1.2.1, show g 7 (g 2 t) = g 0 t - 1 by omega]
  have s14 : xI (sR (sI (sI Z 5 3 (500000 + g 2 t) (nI (g 15 0))) 5 4 (500000 + g 2 t) (F 1 0)) 7 1 (700000 + t) none) 8 14 800000 = F 1 0 := by rw [xI_sR', xI_sI (fun w => absurd w.1 (by decide)), xI_sI (fun w => absurd w.1 (by decide))]; exact hZh.2.2.1
  have kS : SH (sR (sI (sI Z 5 3 (500000 + g 2 t) (nI (g 15 0))) 5 4 (500000 + g 2 t) (F 1 0)) 7 1 (700000 + t) none) := SH_t hH (by rw [xK_sR', xK_sI', xK_sI']) (by rw [xn_sR', xn_sI', xn_sI']) (fun c k a hc => by rw [xR_sR (by omega), xR_sI', xR_sI']) (fun a i ha => by rw [xP_sR', xP_sI', xP_sI'])
  have sd : xA (sR (sI (sI Z 5 3 (500000 + g 2 t) (nI (g 15 0))) 5 4 (500000 + g 2 t) (F 1 0)) 7 1 (700000 + t) none) 1800006 (g 0 t - 1) = owe F (g 0 t - 1) := by rw [xA_sR', xA_sI', xA_sI']; exact hZd _ c8
  have x73 : xR (sA (sR (sI (sI Z 5 3 (500000 + g 2 t) (nI (g 15 0))) 5 4 (500000 + g 2 t) (F 1 0)) 7 1 (700000 + t) none) 1800006 (g 0 t - 1) (owe F (g 0 t - 1) + ((F 105 t + nI 9) / nI 10 * F 1 0))) 7 3 (700000 + t) = xR Z 7 3 (700000 + t) := by rw [xR_sA', xR_sR (fun w => absurd w.2.1 (by decide)), xR_sI', xR_sI']
  have x23 : ∀ a, xI (sA (sR (sI (sI Z 5 3 (500000 + g 2 t) (nI (g 15 0))) 5 4 (500000 + g 2 t) (F 1 0)) 7 1 (700000 + t) none) 1800006 (g 0 t - 1) (owe F (g 0 t - 1) + ((F 105 t + nI 9) / nI 10 * F 1 0))) 2 3 a = xI Z 2 3 a := fun a => by rw [xI_sA', xI_sR', xI_sI (fun w => absurd w.1 (by decide)), xI_sI (fun w => absurd w.1 (by decide))]
  have xkk : ∀ a, xK (sA (sR (sI (sI Z 5 3 (500000 + g 2 t) (nI (g 15 0))) 5 4 (500000 + g 2 t) (F 1 0)) 7 1 (700000 + t) none) 1800006 (g 0 t - 1) (owe F (g 0 t - 1) + ((F 105 t + nI 9) / nI 10 * F 1 0))) a = xK Z a := fun a => by rw [xK_sA', xK_sR', xK_sI', xK_sI']
  have hf : g 1 t - 1 < g 16 0 := by have := (hPI.2.1 t ht).2.2.1.2; omega
  refine G_aload_n (pc := 0) dX9_endRental_0 rfl ?_
  refine G_getS (pc := 1) fl_X9_87 (hH.2.2.1 t ht).1 rfl ((hZt t ht).2.2.1 hz).1 dX9_endRental_1 ?_
  refine G_astore_n (pc := 4) dX9_endRental_4 (by decide) ?_
  refine G_aload_n (pc := 5) dX9_endRental_5 rfl ?_
  refine G_ifnonnull_r (pc := 6) (tgt := 11) dX9_endRental_6 (by decide) ?_
  refine G_aload_n (pc := 11) dX9_endRental_11 rfl ?_
  refine G_aload_n (pc := 12) dX9_endRental_12 rfl ?_
  refine G_getIv (pc := 13) (c := 8) (i := 15) (v := nI (g 15 0)) hZh.2.2.2 fl_X9_102 (sh_k hH) rfl dX9_endRental_13 ?_
  refine G_aload_n (pc := 16) dX9_endRental_16 rfl ?_
  refine G_getIv (pc := 17) (c := 8) (i := 14) (v := F 1 0) hZh.2.2.1 fl_X9_65 (sh_k hH) rfl dX9_endRental_17 ?_
  refine K_Vn2v (pc := 20) (k' := (0, 0)) mok_X5_close lk_X9_312 k5 rfl rfl rfl (aok0 rfl) dX9_endRental_20 (C_rclose k5 (nI (g 15 0)) (F 1 0)) rfl ?_
  refine G_aload_n (pc := 23) dX9_endRental_23 rfl ?_
  refine G_null (pc := 24) dX9_endRental_24 ?_
  refine G_putR (pc := 25) (o := none) rfl (fun _ h => nomatch h) fl_X9_87 fw_7_1 (hH.2.2.1 t ht).1 rfl dX9_endRental_25 ?_
  refine G_aload_n (pc := 28) dX9_endRental_28 rfl ?_
  refine G_getIv (pc := 29) (c := 7) (i := 2) (v := F 105 t) s72 fl_X9_107 (hH.2.2.1 t ht).1 rfl dX9_endRental_29 ?_
  refine G_aload_n (pc := 32) dX9_endRental_32 rfl ?_
  refine G_getIv (pc := 33) (c := 8) (i := 14) (v := F 1 0) s14 fl_X9_65 (sh_k hH) rfl dX9_endRental_33 ?_
  refine K_Sn2r (pc := 36) (k' := (0, 0)) mok_X9_billFor lk_X9_314 rfl (aok0 rfl) dX9_endRental_36 (C_billFor (F 105 t) (F 1 0)) rfl ?_
  refine G_istore_n (pc := 39) dX9_endRental_39 (by decide) ?_
  refine G_aload_n (pc := 40) dX9_endRental_40 rfl ?_
  refine G_aload_n (pc := 41) dX9_endRental_41 rfl ?_
  refine G_getIv (pc := 42) (c := 5) (i := 1) (v := nI (g 0 t - 1)) s51 fl_X9_256 k5 rfl dX9_endRental_42 ?_
  refine G_iload_n (pc := 45) dX9_endRental_45 rfl ?_
  refine K_Vn2v (pc := 46) (k' := (0, 0)) mok_X9_addDebt lk_X9_240 (sh_k kS) rfl rfl rfl (aok0 rfl) dX9_endRental_46 (C_addDebt kS c8 sd ((F 105 t + nI 9) / nI 10 * F 1 0)) rfl ?_
  refine G_aload_n (pc := 49) dX9_endRental_49 rfl ?_
  refine G_getS (pc := 50) fl_X9_257 (hH.2.2.1 t ht).1 rfl (x73.trans ((hZt t ht).2.2.2.2.1 h1)) dX9_endRental_50 ?_
  refine G_ifnull_r (pc := 53) dX9_endRental_53 ?_
  refine G_aload_n (pc := 56) dX9_endRental_56 rfl ?_
  refine G_getS (pc := 57) fl_X9_257 (hH.2.2.1 t ht).1 rfl (x73.trans ((hZt t ht).2.2.2.2.1 h1)) dX9_endRental_57 ?_
  refine G_getIv (pc := 60) (c := 2) (i := 3) (v := F 112 (g 1 t - 1)) ((x23 _).trans (hZf _ hf).2.2.1.2.2.2) fl_X9_173 ((xkk _).trans (hZf _ hf).1.1) rfl dX9_endRental_60 ?_
  refine G_if_ne (pc := 63) (tgt := 71) dX9_endRental_63 (by decide) (fun c63 => ?_) (fun c63 => ?_)
  · exact absurd h2 c63
  · skip
    refine G_aload_n (pc := 66) dX9_endRental_66 rfl ?_
    refine G_aload_n (pc := 67) dX9_endRental_67 rfl ?_
    refine K_Vn1v (pc := 68) (k' := (0, 0)) mok_X9_takeFrameOff lk_X9_125 (sh_k kS) rfl rfl rfl (aok0 rfl) dX9_endRental_68 (hT) rfl ?_
    refine G_iload_n (pc := 71) dX9_endRental_71 rfl ?_
    refine G_iret (pc := 72) VZ.n dX9_endRental_72 rfl ⟨by decide, by decide⟩ ?_
    exact ⟨rfl, rfl⟩
theorem endR_ok {Γ : GTy} {n : Nat} {Z : HS} {F A : FT} {g : GN} (h : CI n Z F g A) {t : Nat} (ht : t < 4) : ∃ (L : HS) (g' : GN) (A' : FT), CI n L (mEnds F t (g 0 t) (g 1 t)).2 g' A' ∧ rF L = rF Z ∧ Tn Γ M_X9_endRental [.ref 800000, .ref (700000 + t)] Z (rt (some (.int (mEnds F t (g 0 t) (g 1 t)).1)) L) := by
  by_cases hz : g 0 t = 0
  · rw [show mEnds F t (g 0 t) (g 1 t) = (nI 0, F) from if_pos hz]
    exact ⟨Z, g, A, h, rfl, C_endR0 h ht hz⟩
  · have hc := CIu_close h ht hz
    have rfc : rF (sA (sR (sI (sI Z 5 3 (500000 + g 2 t) (nI (g 15 0))) 5 4 (500000 + g 2 t) (F 1 0)) 7 1 (700000 + t) none) 1800006 (g 0 t - 1) (owe F (g 0 t - 1) + ((F 105 t + nI 9) / nI 10 * F 1 0))) = rF Z := by rw [rF_sA (by decide), rF_sR, rF_sI (by decide), rF_sI (by decide)]
    have em : mEnds F t (g 0 t) (g 1 t) = (F 1 0 * ((F 105 t + nI 9) / nI 10), if 0 < g 1 t ∧ F 112 (g 1 t - 1) = 0 then mClears (closF F t (g 0 t)) t (g 1 t) else closF F t (g 0 t)) := if_neg hz
    rw [em, Int32.mul_comm (F 1 0)]
    by_cases h1 : g 1 t = 0
    · rw [if_neg (fun q => by omega)]
      exact ⟨_, _, _, hc, rfc, C_endR1 h ht hz h1⟩
    · by_cases h2 : F 112 (g 1 t - 1) = 0
      · rw [if_pos ⟨by omega, h2⟩]
        obtain ⟨L, g', a1, a2, -, a3⟩ := off_ok (Γ := Γ) hc ht
        rw [cG_o (by decide)] at a1
        exact ⟨L, g', _, a1, a2.trans rfc, C_endR3 h ht hz h1 h2 a3⟩
      · rw [if_neg (fun q => h2 q.2)]
        exact ⟨_, _, _, hc, rfc, C_endR2 h ht hz h1 h2⟩
theorem CIu_open0 {n : Nat} {Z : HS} {F A : FT} {g : GN} (h : CI n Z F g A) {t : Nat} (ht : t < 4) {v : Int32} (hv : v = 0 ∨ v = 1) : CI n (sI Z 7 0 (700000 + t) (b2 (v = 0))) (u2 F 102 t v) g A := by
  have h0 := h
  obtain ⟨hH, ⟨hPI, hPG, hZo⟩, ⟨hZh, hZd, hZw⟩, ⟨hZt, hZc, hZf⟩, ⟨hZr, hZs, hZl⟩, hZfr, hZbd⟩ := h0
  have uo : ∀ s j, s ≠ 102 → u2 F 102 t v s j = F s j := fun s j q => u2_s q
  have lI : ∀ c k a, ¬ (c = 7 ∧ k = 0 ∧ a = 700000 + t) → xI (sI Z 7 0 (700000 + t) (b2 (v = 0))) c k a = xI Z c k a := fun c k a w => xI_sI w
  refine ⟨SH_t hH (by rw [xK_sI']) (by rw [xn_sI']) (fun c k a hc => by rw [xR_sI']) (fun a i ha => by rw [xP_sI']), ⟨⟨?_, fun i hi => ?_, fun v hv => ?_, hPI.2.2.2.1, fun f hf' => ?_, fun f hf' => ?_⟩, PG_t hPG (fun s i _ => rfl) (fun s j _ _ => rfl) (fun s _ _ => rfl) (fun i _ => rfl) (fun j => uo _ _ (by decide)), fun c' hc' => ?_⟩, ⟨Zh_t hZh (fun k => lI _ _ _ (fun w => absurd w.1 (by decide))) (uo _ _ (by decide)) (fun s h1 h2 => rfl), Zd_t hZd (fun i => by rw [xA_sI']) (owe_t (fun j => uo _ _ (by decide)) (fun j => uo _ _ (by decide))), Zw_t hZw (fun i => by rw [xA_sI']) (fun c' => cnt_congr (fun j _ => by rw [uo _ _ (by decide), uo _ _ (by decide)]))⟩, ⟨fun i hi => ?_, Zc_t hZc (fun k a => ⟨lI _ _ _ (fun w => absurd w.1 (by decide)), lI _ _ _ (fun w => absurd w.1 (by decide))⟩) (fun k a => by rw [xR_sI']) (fun u => ⟨uo _ _ (by decide), uo _ _ (by decide)⟩) (fun u => ⟨rfl, rfl⟩), Zf_t hZf hPI.1.2.2 (fun f hf => by rw [xK_sI', xn_sI']; exact ⟨rfl, rfl, rfl⟩) (fun k f _ => lI _ _ _ (fun w => absurd w.1 (by decide))) (fun k f _ => by rw [xR_sI']) (fun f j hf => by rw [xA_sI']) (fun f => by rw [xP_sI']) (fun s j h1 h2 => uo _ _ (by omega)) ⟨rfl, fun f => rfl⟩⟩, ⟨Zr_t hZr (fun j _ => by rw [xK_sI']) (fun k a => lI _ _ _ (fun w => absurd w.1 (by decide))) (fun i => by rw [xP_sI']) (fun j => rfl) rfl (fun s j h1 h2 => rfl), Zs_t hZs (fun j _ => by rw [xK_sI']) (fun k a => lI _ _ _ (fun w => absurd w.1 (by decide))) (fun i => by rw [xP_sI']) rfl (fun s j h1 h2 => rfl), Zl_t hZl (fun j _ => by rw [xK_sI']) (fun k a => lI _ _ _ (fun w => absurd w.1 (by decide))) (fun i => by rw [xP_sI']) (fun j => rfl) rfl (fun j => rfl)⟩, Zfr_t hZfr (fun a => by rw [xK_sI']) (fun s h1 h2 => rfl), hZbd⟩
  · rw [uo _ _ (by decide), uo _ _ (by decide)]; exact hPI.1
  · rw [uo 103 _ (by decide), uo 104 _ (by decide), uo 105 _ (by decide)]
    refine ⟨?_, (hPI.2.1 i hi).2⟩
    by_cases e : i = t
    · rw [e, u2_e]; exact hv
    · rw [u2_j e]; exact (hPI.2.1 i hi).1
  · rw [uo _ _ (by decide), uo _ _ (by decide)]; exact hPI.2.2.1 v hv
  · exact FrP_t (hPI.2.2.2.2.1 f hf') (fun s j h1 h2 => uo _ _ (by omega)) (fun s h1 h2 => rfl) (fun i => rfl)
  · rw [uo _ _ (by decide), uo _ _ (by decide), uo _ _ (by decide), uo _ _ (by decide), uo _ _ (by decide)]
    exact hPI.2.2.2.2.2 f hf'
  · rw [hZo c' hc', owe_t (F' := u2 F 102 t v) (F := F) (fun j => uo _ _ (by decide)) (fun j => uo _ _ (by decide))]
  · have := hZt i hi
    unfold leag at this ⊢
    rw [lI 7 2 _ (fun w => absurd w.2.1 (by decide)), xR_sI', uo 105 _ (by decide), uo 112 _ (by decide)]
    refine ⟨?_, this.2⟩
    by_cases e : i = t
    · rw [e, xI_sIe]
      exact b2_eq (by rw [u2_e])
    · rw [lI 7 0 _ (fun w => e (by omega)), this.1]
      exact b2_eq (by rw [u2_j e])
theorem K_endN {Γ : GTy} {Z : HS} {n : Nat} {P : HS → FT → Prop} {F A : FT} {g : GN} (h : CI n Z F g A) {t : Nat} (ht : t < 4) (hz : g 0 t ≠ 0) {v : Int32} {L : HS} (hT : Tn Γ M_X9_endRental [.ref 800000, .ref (700000 + t)] Z (rt (some (.int v)) L)) {F' : FT} {b : Int32} (hb : v = b) (hcd : F' 25 0 = nI 0) (hq : Nx P Z L F') : Tt Γ M_X9_end [.ref 800000, .int (nI t)] Z (QVo P Z F' b) (QXo P Z F' [xIO, xIS]) := by
  refine Tt_of' rfl rfl rfl ?_
  show G Γ M_X9_end (rm M_X9_end) (Vt Γ M_X9_end (QVo P Z F' b) (QXo P Z F' [xIO, xIS])) (0, 0) 0 [some (.ref 800000), some (.int (nI t)), none] [] Z
  have h0 := h
  obtain ⟨hH, ⟨hPI, hPG, hZo⟩, ⟨hZh, hZd, hZw⟩, ⟨hZt, hZc, hZf⟩, ⟨hZr, hZs, hZl⟩, hZfr, hZbd⟩ := h0
  refine G_aload_n (pc := 0) dX9_end_0 rfl ?_
  refine G_iload_n (pc := 1) dX9_end_1 rfl ?_
  refine K_Vn1r (pc := 2) (k' := (1, 6)) mok_X9_tableAt lk_X9_75 (sh_k hH) rfl rfl rfl (aok0 rfl) dX9_end_2 (C_tableAtN hH ht) rfl ?_
  refine G_astore_n (pc := 5) dX9_end_5 (by decide) ?_
  refine G_aload_n (pc := 6) dX9_end_6 rfl ?_
  refine G_getS (pc := 7) fl_X9_87 (hH.2.2.1 t ht).1 rfl ((hZt t ht).2.2.1 hz).1 dX9_end_7 ?_
  refine G_ifnonnull_r (pc := 10) (tgt := 23) dX9_end_10 (by decide) ?_
  refine G_aload_n (pc := 23) dX9_end_23 rfl ?_
  refine G_aload_n (pc := 24) dX9_end_24 rfl ?_
  refine K_Vn1r (pc := 25) (k' := (1, 6)) mok_X9_endRental lk_X9_119 (sh_k hH) rfl rfl rfl (aok0 rfl) dX9_end_25 (hT) rfl ?_
  refine G_iret (pc := 28) VZ.x dX9_end_28 rfl ⟨by decide, by decide⟩ ?_
  exact ⟨congrArg (fun z => some (Value.int z)) hb, hcd, hq⟩
theorem K_endX {Γ : GTy} {Z : HS} {n : Nat} {P : HS → FT → Prop} {F A : FT} {g : GN} (h : CI n Z F g A) {x : Int32} (hx : ¬ (nI 0 ≤ x ∧ x ≤ nI 3)) {F' : FT} {b : Int32} (hcd : F' 25 0 = nI 1) (hq : Nx P Z Z F') : Tt Γ M_X9_end [.ref 800000, .int x] Z (QVo P Z F' b) (QXo P Z F' [xIO, xIS]) := by
  refine Tt_of' rfl rfl rfl ?_
  show G Γ M_X9_end (rm M_X9_end) (Vt Γ M_X9_end (QVo P Z F' b) (QXo P Z F' [xIO, xIS])) (0, 0) 0 [some (.ref 800000), some (.int x), none] [] Z
  have h0 := h
  obtain ⟨hH, ⟨hPI, hPG, hZo⟩, ⟨hZh, hZd, hZw⟩, ⟨hZt, hZc, hZf⟩, ⟨hZr, hZs, hZl⟩, hZfr, hZbd⟩ := h0
  refine G_aload_n (pc := 0) dX9_end_0 rfl ?_
  refine G_iload_n (pc := 1) dX9_end_1 rfl ?_
  refine K_V1 (pc := 2) (k' := (1, 6)) mok_X9_tableAt lk_X9_75 (sh_k hH) rfl rfl rfl (aok0 rfl) dX9_end_2 (C_tableAtX hH hx) rfl (fun v1 Y1 q1 => ?_) (fun E1 Y1 q1 => ?_)
  · exact q1.elim
  · (obtain ⟨rfl, rfl⟩ := q1; exact GX_out rfl ⟨by decide, by decide⟩ ⟨0, rfl, hcd, hq⟩)
theorem K_endY {Γ : GTy} {Z : HS} {n : Nat} {P : HS → FT → Prop} {F A : FT} {g : GN} (h : CI n Z F g A) {t : Nat} (ht : t < 4) (hz : g 0 t = 0) {F' : FT} {b : Int32} (hcd : F' 25 0 = nI 2) (hq : Nx P Z Z F') : Tt Γ M_X9_end [.ref 800000, .int (nI t)] Z (QVo P Z F' b) (QXo P Z F' [xIO, xIS]) := by
  refine Tt_of' rfl rfl rfl ?_
  show G Γ M_X9_end (rm M_X9_end) (Vt Γ M_X9_end (QVo P Z F' b) (QXo P Z F' [xIO, xIS])) (0, 0) 0 [some (.ref 800000), some (.int (nI t)), none] [] Z
  have h0 := h
  obtain ⟨hH, ⟨hPI, hPG, hZo⟩, ⟨hZh, hZd, hZw⟩, ⟨hZt, hZc, hZf⟩, ⟨hZr, hZs, hZl⟩, hZfr, hZbd⟩ := h0
  refine G_aload_n (pc := 0) dX9_end_0 rfl ?_
  refine G_iload_n (pc := 1) dX9_end_1 rfl ?_
  refine K_Vn1r (pc := 2) (k' := (1, 6)) mok_X9_tableAt lk_X9_75 (sh_k hH) rfl rfl rfl (aok0 rfl) dX9_end_2 (C_tableAtN hH ht) rfl ?_
  refine G_astore_n (pc := 5) dX9_end_5 (by decide) ?_
  refine G_aload_n (pc := 6) dX9_end_6 rfl ?_
  refine G_getN (pc := 7) fl_X9_87 (hH.2.2.1 t ht).1 rfl ((hZt t ht).2.1 hz) dX9_end_7 ?_
  refine G_ifnonnull_n (pc := 10) dX9_end_10 ?_
  refine G_throw (pc := 13)  tw_X9_117 rfl dX9_end_13 dX9_end_16 dX9_end_17 dX9_end_19 dX9_end_22 ⟨by decide, Nat.le_of_ble_eq_true rfl, by decide, by decide⟩ ⟨by decide, by decide⟩ ?_
  exact ⟨1, rfl, hcd, hq⟩
theorem K_tearN {Γ : GTy} {Z : HS} {n : Nat} {P : HS → FT → Prop} {F A : FT} {g : GN} (h : CI n Z F g A) {t : Nat} (ht : t < 4) (hc : F 102 t = 0) {v : Int32} {L M : HS} (hT : Tn Γ M_X9_endRental [.ref 800000, .ref (700000 + t)] Z (rt (some (.int v)) L)) (hL : SH L) (hT2 : Tn Γ M_X9_takeFrameOff [.ref 800000, .ref (700000 + t)] L (rt none M)) (hM : SH M) {F' : FT} {b : Int32} (hb : v = b) (hcd : F' 25 0 = nI 0) (hq : Nx P Z (sI M 7 0 (700000 + t) (nI 0)) F') : Tt Γ M_X9_tear [.ref 800000, .int (nI t)] Z (QVo P Z F' b) (QXo P Z F' [xIO, xIS]) := by
  refine Tt_of' rfl rfl rfl ?_
  show G Γ M_X9_tear (rm M_X9_tear) (Vt Γ M_X9_tear (QVo P Z F' b) (QXo P Z F' [xIO, xIS])) (0, 0) 0 [some (.ref 800000), some (.int (nI t)), none, none] [] Z
  have h0 := h
  obtain ⟨hH, ⟨hPI, hPG, hZo⟩, ⟨hZh, hZd, hZw⟩, ⟨hZt, hZc, hZf⟩, ⟨hZr, hZs, hZl⟩, hZfr, hZbd⟩ := h0
  refine G_aload_n (pc := 0) dX9_tear_0 rfl ?_
  refine G_iload_n (pc := 1) dX9_tear_1 rfl ?_
  refine K_Vn1r (pc := 2) (k' := (1, 6)) mok_X9_tableAt lk_X9_75 (sh_k hH) rfl rfl rfl (aok0 rfl) dX9_tear_2 (C_tableAtN hH ht) rfl ?_
  refine G_astore_n (pc := 5) dX9_tear_5 (by decide) ?_
  refine G_aload_n (pc := 6) dX9_tear_6 rfl ?_
  refine G_getIv (pc := 7) (c := 7) (i := 0) (v := b2 (F 102 t = 0)) (hZt t ht).1 fl_X9_83 (hH.2.2.1 t ht).1 rfl dX9_tear_7 ?_
  refine G_if_neB (pc := 10) (tgt := 23) dX9_tear_10 (by decide) (fun c10 => ?_) (fun c10 => ?_)
  · skip
    refine G_aload_n (pc := 23) dX9_tear_23 rfl ?_
    refine G_aload_n (pc := 24) dX9_tear_24 rfl ?_
    refine K_Vn1r (pc := 25) (k' := (1, 6)) mok_X9_endRental lk_X9_119 (sh_k hH) rfl rfl rfl (aok0 rfl) dX9_tear_25 (hT) rfl ?_
    refine G_istore_n (pc := 28) dX9_tear_28 (by decide) ?_
    refine G_aload_n (pc := 29) dX9_tear_29 rfl ?_
    refine G_aload_n (pc := 30) dX9_tear_30 rfl ?_
    refine K_Vn1v (pc := 31) (k' := (1, 6)) mok_X9_takeFrameOff lk_X9_125 (sh_k hL) rfl rfl rfl (aok0 rfl) dX9_tear_31 (hT2) rfl ?_
    refine G_aload_n (pc := 34) dX9_tear_34 rfl ?_
    refine G_iconst (pc := 35) (v := nI 0) dX9_tear_35 (by first | rfl | decide) ?_
    show G _ _ _ _ _ _ _ _ M
    refine G_putZ (pc := 36) fl_X9_83 fw_7_0 (hM.2.2.1 t ht).1 rfl (Or.inl rfl) dX9_tear_36 ?_
    refine G_iload_n (pc := 39) dX9_tear_39 rfl ?_
    refine G_iret (pc := 40) VZ.x dX9_tear_40 rfl ⟨by decide, by decide⟩ ?_
    exact ⟨congrArg (fun z => some (Value.int z)) hb, hcd, hq⟩
  · exact absurd hc c10
theorem K_tearX {Γ : GTy} {Z : HS} {n : Nat} {P : HS → FT → Prop} {F A : FT} {g : GN} (h : CI n Z F g A) {x : Int32} (hx : ¬ (nI 0 ≤ x ∧ x ≤ nI 3)) {F' : FT} {b : Int32} (hcd : F' 25 0 = nI 1) (hq : Nx P Z Z F') : Tt Γ M_X9_tear [.ref 800000, .int x] Z (QVo P Z F' b) (QXo P Z F' [xIO, xIS]) := by
  refine Tt_of' rfl rfl rfl ?_
  show G Γ M_X9_tear (rm M_X9_tear) (Vt Γ M_X9_tear (QVo P Z F' b) (QXo P Z F' [xIO, xIS])) (0, 0) 0 [some (.ref 800000), some (.int x), none, none] [] Z
  have h0 := h
  obtain ⟨hH, ⟨hPI, hPG, hZo⟩, ⟨hZh, hZd, hZw⟩, ⟨hZt, hZc, hZf⟩, ⟨hZr, hZs, hZl⟩, hZfr, hZbd⟩ := h0
  refine G_aload_n (pc := 0) dX9_tear_0 rfl ?_
  refine G_iload_n (pc := 1) dX9_tear_1 rfl ?_
  refine K_V1 (pc := 2) (k' := (1, 6)) mok_X9_tableAt lk_X9_75 (sh_k hH) rfl rfl rfl (aok0 rfl) dX9_tear_2 (C_tableAtX hH hx) rfl (fun v1 Y1 q1 => ?_) (fun E1 Y1 q1 => ?_)
  · exact q1.elim
  · (obtain ⟨rfl, rfl⟩ := q1; exact GX_out rfl ⟨by decide, by decide⟩ ⟨0, rfl, hcd, hq⟩)
theorem K_tearY {Γ : GTy} {Z : HS} {n : Nat} {P : HS → FT → Prop} {F A : FT} {g : GN} (h : CI n Z F g A) {t : Nat} (ht : t < 4) (hc : ¬ F 102 t = 0) {F' : FT} {b : Int32} (hcd : F' 25 0 = nI 2) (hq : Nx P Z Z F') : Tt Γ M_X9_tear [.ref 800000, .int (nI t)] Z (QVo P Z F' b) (QXo P Z F' [xIO, xIS]) := by
  refine Tt_of' rfl rfl rfl ?_
  show G Γ M_X9_tear (rm M_X9_tear) (Vt Γ M_X9_tear (QVo P Z F' b) (QXo P Z F' [xIO, xIS])) (0, 0) 0 [some (.ref 800000), some (.int (nI t)), none, none] [] Z
  have h0 := h
  obtain ⟨hH, ⟨hPI, hPG, hZo⟩, ⟨hZh, hZd, hZw⟩, ⟨hZt, hZc, hZf⟩, ⟨hZr, hZs, hZl⟩, hZfr, hZbd⟩ := h0
  refine G_aload_n (pc := 0) dX9_tear_0 rfl ?_
  refine G_iload_n (pc := 1) dX9_tear_1 rfl ?_
  refine K_Vn1r (pc := 2) (k' := (1, 6)) mok_X9_tableAt lk_X9_75 (sh_k hH) rfl rfl rfl (aok0 rfl) dX9_tear_2 (C_tableAtN hH ht) rfl ?_
  refine G_astore_n (pc := 5) dX9_tear_5 (by decide) ?_
  refine G_aload_n (pc := 6) dX9_tear_6 rfl ?_
  refine G_getIv (pc := 7) (c := 7) (i := 0) (v := b2 (F 102 t = 0)) (hZt t ht).1 fl_X9_83 (hH.2.2.1 t ht).1 rfl dX9_tear_7 ?_
  refine G_if_neB (pc := 10) (tgt := 23) dX9_tear_10 (by decide) (fun c10 => ?_) (fun c10 => ?_)
  · exact absurd c10 hc
  · skip
    refine G_throw (pc := 13)  tw_X9_123 rfl dX9_tear_13 dX9_tear_16 dX9_tear_17 dX9_tear_19 dX9_tear_22 ⟨by decide, Nat.le_of_ble_eq_true rfl, by decide, by decide⟩ ⟨by decide, by decide⟩ ?_
    exact ⟨1, rfl, hcd, hq⟩
