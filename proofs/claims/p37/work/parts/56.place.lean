-- ===== requirePlace, putFrameOn =====
theorem C_placeN {Γ : GTy} {Z : HS} {n : Nat} {F A : FT} {g : GN} (h : CI n Z F g A) {t a b : Nat} {z : Int32} (ht : t < 4) (ha : a < 8) (hb : b < 8) (ho : F 102 t = 0) (hg : g 1 t = 0) (hp : (¬ z = 0 ∨ (F 103 t = nI (a + 1) ∨ F 103 t = nI (b + 1)))) : Tn Γ M_X9_requirePlace [.ref (700000 + t), .int z, .int (nI a), .int (nI b)] Z (rt none Z) := by
  refine Tn_of' rfl rfl rfl ?_
  show G Γ M_X9_requirePlace (rm M_X9_requirePlace) (Vn Γ M_X9_requirePlace (rt none Z)) (0, 0) 0 [some (.ref (700000 + t)), some (.int z), some (.int (nI a)), some (.int (nI b))] [] Z
  have h0 := h
  obtain ⟨hH, ⟨hPI, hPG, hZo⟩, ⟨hZh, hZd, hZw⟩, ⟨hZt, hZc, hZf⟩, ⟨hZr, hZs, hZl⟩, hZfr, hZbd⟩ := h0
  refine G_aload_n (pc := 0) dX9_requirePlace_0 rfl ?_
  refine G_getIv (pc := 1) (c := 7) (i := 0) (v := b2 (F 102 t = 0)) (hZt t ht).1 fl_X9_83 (hH.2.2.1 t ht).1 rfl dX9_requirePlace_1 ?_
  refine G_if_eqB (pc := 4) (tgt := 14) dX9_requirePlace_4 (by decide) (fun c4 => ?_) (fun c4 => ?_)
  · exact absurd ho c4
  · skip
    refine G_aload_n (pc := 7) dX9_requirePlace_7 rfl ?_
    refine G_getN (pc := 8) fl_X9_257 (hH.2.2.1 t ht).1 rfl ((hZt t ht).2.2.2.1 hg) dX9_requirePlace_8 ?_
    refine G_ifnull_n (pc := 11) (tgt := 25) dX9_requirePlace_11 (by decide) ?_
    refine G_iload_n (pc := 25) dX9_requirePlace_25 rfl ?_
    refine G_if_ne (pc := 26) (tgt := 56) dX9_requirePlace_26 (by decide) (fun c26 => ?_) (fun c26 => ?_)
    · skip
      refine G_vret (pc := 56) VZ.n dX9_requirePlace_56 rfl ⟨by decide, by decide⟩ ?_
      exact ⟨rfl, rfl⟩
    · skip
      refine G_aload_n (pc := 29) dX9_requirePlace_29 rfl ?_
      refine G_iload_n (pc := 30) dX9_requirePlace_30 rfl ?_
      refine K_Vn1r (pc := 31) (k' := (0, 0)) mok_X8_isRentedBy lk_X9_307 (hH.2.2.1 t ht).1 rfl rfl rfl (aok0 rfl) dX9_requirePlace_31 (C_rented h ht ha) rfl ?_
      refine G_if_neB (pc := 34) (tgt := 56) dX9_requirePlace_34 (by decide) (fun c34 => ?_) (fun c34 => ?_)
      · skip
        refine G_vret (pc := 56) VZ.n dX9_requirePlace_56 rfl ⟨by decide, by decide⟩ ?_
        exact ⟨rfl, rfl⟩
      · skip
        refine G_aload_n (pc := 37) dX9_requirePlace_37 rfl ?_
        refine G_iload_n (pc := 38) dX9_requirePlace_38 rfl ?_
        refine K_Vn1r (pc := 39) (k' := (0, 0)) mok_X8_isRentedBy lk_X9_307 (hH.2.2.1 t ht).1 rfl rfl rfl (aok0 rfl) dX9_requirePlace_39 (C_rented h ht hb) rfl ?_
        refine G_if_neB (pc := 42) (tgt := 56) dX9_requirePlace_42 (by decide) (fun c42 => ?_) (fun c42 => ?_)
        · skip
          refine G_vret (pc := 56) VZ.n dX9_requirePlace_56 rfl ⟨by decide, by decide⟩ ?_
          exact ⟨rfl, rfl⟩
        · exact absurd hp (fun q => q.elim (fun w => w c26) (fun w => w.elim c34 c42))
theorem C_placeX1 {Γ : GTy} {Z : HS} {n : Nat} {F A : FT} {g : GN} (h : CI n Z F g A) {t a b : Nat} {z : Int32} (ht : t < 4) (ha : a < 8) (hb : b < 8) (ho : ¬ F 102 t = 0) : Tt Γ M_X9_requirePlace [.ref (700000 + t), .int z, .int (nI a), .int (nI b)] Z noV (XQ xIS Z) := by
  refine Tt_of' rfl rfl rfl ?_
  show G Γ M_X9_requirePlace (rm M_X9_requirePlace) (Vt Γ M_X9_requirePlace noV (XQ xIS Z)) (0, 0) 0 [some (.ref (700000 + t)), some (.int z), some (.int (nI a)), some (.int (nI b))] [] Z
  have h0 := h
  obtain ⟨hH, ⟨hPI, hPG, hZo⟩, ⟨hZh, hZd, hZw⟩, ⟨hZt, hZc, hZf⟩, ⟨hZr, hZs, hZl⟩, hZfr, hZbd⟩ := h0
  refine G_aload_n (pc := 0) dX9_requirePlace_0 rfl ?_
  refine G_getIv (pc := 1) (c := 7) (i := 0) (v := b2 (F 102 t = 0)) (hZt t ht).1 fl_X9_83 (hH.2.2.1 t ht).1 rfl dX9_requirePlace_1 ?_
  refine G_if_eqB (pc := 4) (tgt := 14) dX9_requirePlace_4 (by decide) (fun c4 => ?_) (fun c4 => ?_)
  · skip
    refine G_throwW (pc := 14)  tw_X9_305 rfl dX9_requirePlace_14 dX9_requirePlace_17 dX9_requirePlace_18 dX9_requirePlace_21 dX9_requirePlace_24 ⟨by decide, Nat.le_of_ble_eq_true rfl, by decide, by decide⟩ ⟨by decide, by decide⟩ ?_
    exact ⟨rfl, rfl⟩
  · exact absurd c4 ho
theorem C_placeX2 {Γ : GTy} {Z : HS} {n : Nat} {F A : FT} {g : GN} (h : CI n Z F g A) {t a b : Nat} {z : Int32} (ht : t < 4) (ha : a < 8) (hb : b < 8) (ho : F 102 t = 0) (hg : g 1 t ≠ 0) : Tt Γ M_X9_requirePlace [.ref (700000 + t), .int z, .int (nI a), .int (nI b)] Z noV (XQ xIS Z) := by
  refine Tt_of' rfl rfl rfl ?_
  show G Γ M_X9_requirePlace (rm M_X9_requirePlace) (Vt Γ M_X9_requirePlace noV (XQ xIS Z)) (0, 0) 0 [some (.ref (700000 + t)), some (.int z), some (.int (nI a)), some (.int (nI b))] [] Z
  have h0 := h
  obtain ⟨hH, ⟨hPI, hPG, hZo⟩, ⟨hZh, hZd, hZw⟩, ⟨hZt, hZc, hZf⟩, ⟨hZr, hZs, hZl⟩, hZfr, hZbd⟩ := h0
  refine G_aload_n (pc := 0) dX9_requirePlace_0 rfl ?_
  refine G_getIv (pc := 1) (c := 7) (i := 0) (v := b2 (F 102 t = 0)) (hZt t ht).1 fl_X9_83 (hH.2.2.1 t ht).1 rfl dX9_requirePlace_1 ?_
  refine G_if_eqB (pc := 4) (tgt := 14) dX9_requirePlace_4 (by decide) (fun c4 => ?_) (fun c4 => ?_)
  · exact absurd ho c4
  · skip
    refine G_aload_n (pc := 7) dX9_requirePlace_7 rfl ?_
    refine G_getS (pc := 8) fl_X9_257 (hH.2.2.1 t ht).1 rfl ((hZt t ht).2.2.2.2.1 hg) dX9_requirePlace_8 ?_
    refine G_ifnull_r (pc := 11) dX9_requirePlace_11 ?_
    refine G_throwW (pc := 14)  tw_X9_305 rfl dX9_requirePlace_14 dX9_requirePlace_17 dX9_requirePlace_18 dX9_requirePlace_21 dX9_requirePlace_24 ⟨by decide, Nat.le_of_ble_eq_true rfl, by decide, by decide⟩ ⟨by decide, by decide⟩ ?_
    exact ⟨rfl, rfl⟩
theorem C_placeX3 {Γ : GTy} {Z : HS} {n : Nat} {F A : FT} {g : GN} (h : CI n Z F g A) {t a b : Nat} {z : Int32} (ht : t < 4) (ha : a < 8) (hb : b < 8) (ho : F 102 t = 0) (hg : g 1 t = 0) (hp : ¬ (¬ z = 0 ∨ (F 103 t = nI (a + 1) ∨ F 103 t = nI (b + 1)))) : Tt Γ M_X9_requirePlace [.ref (700000 + t), .int z, .int (nI a), .int (nI b)] Z noV (XQ xIS Z) := by
  refine Tt_of' rfl rfl rfl ?_
  show G Γ M_X9_requirePlace (rm M_X9_requirePlace) (Vt Γ M_X9_requirePlace noV (XQ xIS Z)) (0, 0) 0 [some (.ref (700000 + t)), some (.int z), some (.int (nI a)), some (.int (nI b))] [] Z
  have h0 := h
  obtain ⟨hH, ⟨hPI, hPG, hZo⟩, ⟨hZh, hZd, hZw⟩, ⟨hZt, hZc, hZf⟩, ⟨hZr, hZs, hZl⟩, hZfr, hZbd⟩ := h0
  refine G_aload_n (pc := 0) dX9_requirePlace_0 rfl ?_
  refine G_getIv (pc := 1) (c := 7) (i := 0) (v := b2 (F 102 t = 0)) (hZt t ht).1 fl_X9_83 (hH.2.2.1 t ht).1 rfl dX9_requirePlace_1 ?_
  refine G_if_eqB (pc := 4) (tgt := 14) dX9_requirePlace_4 (by decide) (fun c4 => ?_) (fun c4 => ?_)
  · exact absurd ho c4
  · skip
    refine G_aload_n (pc := 7) dX9_requirePlace_7 rfl ?_
    refine G_getN (pc := 8) fl_X9_257 (hH.2.2.1 t ht).1 rfl ((hZt t ht).2.2.2.1 hg) dX9_requirePlace_8 ?_
    refine G_ifnull_n (pc := 11) (tgt := 25) dX9_requirePlace_11 (by decide) ?_
    refine G_iload_n (pc := 25) dX9_requirePlace_25 rfl ?_
    refine G_if_ne (pc := 26) (tgt := 56) dX9_requirePlace_26 (by decide) (fun c26 => ?_) (fun c26 => ?_)
    · exact absurd (Or.inl c26) hp
    · skip
      refine G_aload_n (pc := 29) dX9_requirePlace_29 rfl ?_
      refine G_iload_n (pc := 30) dX9_requirePlace_30 rfl ?_
      refine K_Vn1r (pc := 31) (k' := (0, 0)) mok_X8_isRentedBy lk_X9_307 (hH.2.2.1 t ht).1 rfl rfl rfl (aok0 rfl) dX9_requirePlace_31 (C_rented h ht ha) rfl ?_
      refine G_if_neB (pc := 34) (tgt := 56) dX9_requirePlace_34 (by decide) (fun c34 => ?_) (fun c34 => ?_)
      · exact absurd (Or.inr (Or.inl c34)) hp
      · skip
        refine G_aload_n (pc := 37) dX9_requirePlace_37 rfl ?_
        refine G_iload_n (pc := 38) dX9_requirePlace_38 rfl ?_
        refine K_Vn1r (pc := 39) (k' := (0, 0)) mok_X8_isRentedBy lk_X9_307 (hH.2.2.1 t ht).1 rfl rfl rfl (aok0 rfl) dX9_requirePlace_39 (C_rented h ht hb) rfl ?_
        refine G_if_neB (pc := 42) (tgt := 56) dX9_requirePlace_42 (by decide) (fun c42 => ?_) (fun c42 => ?_)
        · exact absurd (Or.inr (Or.inr c42)) hp
        · skip
          refine G_throwW (pc := 45)  tw_X9_310 rfl dX9_requirePlace_45 dX9_requirePlace_48 dX9_requirePlace_49 dX9_requirePlace_52 dX9_requirePlace_55 ⟨by decide, Nat.le_of_ble_eq_true rfl, by decide, by decide⟩ ⟨by decide, by decide⟩ ?_
          exact ⟨rfl, rfl⟩
theorem C_placeX {Γ : GTy} {n : Nat} {Z : HS} {F A : FT} {g : GN} (h : CI n Z F g A) {t a b : Nat} {z : Int32} (ht : t < 4) (ha : a < 8) (hb : b < 8) (hx : ¬ (F 102 t = 0 ∧ g 1 t = 0 ∧ (¬ z = 0 ∨ (F 103 t = nI (a + 1) ∨ F 103 t = nI (b + 1))))) : Tt Γ M_X9_requirePlace [.ref (700000 + t), .int z, .int (nI a), .int (nI b)] Z noV (XQ xIS Z) := by
  by_cases ho : F 102 t = 0
  · by_cases hg : g 1 t = 0
    · exact C_placeX3 h ht ha hb ho hg (fun q => hx ⟨ho, hg, q⟩)
    · exact C_placeX2 h ht ha hb ho hg
  · exact C_placeX1 h ht ha hb ho
theorem place_g {F : FT} {g : GN} (h : PI F g) {t : Nat} (ht : t < 4) : F 104 t = 0 ↔ g 1 t = 0 := by
  have e := (h.2.1 t ht).2.2.1
  have := h.1.2.2
  rw [e.1]
  exact ⟨fun q => (nI_eq (b := 0) (by omega) (by decide)).mp q, fun q => by rw [q]; rfl⟩
theorem C_stayInit {Γ : GTy} {Z : HS} {q : Nat} (hk : xK Z q = 6) (t m : Int32) : Tn Γ M_X7_init [.ref q, .int t, .int m] Z (rt none (sI (sI (sI Z 6 2 q (-1)) 6 0 q t) 6 1 q m)) := by
  refine Tn_of' rfl rfl rfl ?_
  show G Γ M_X7_init (rm M_X7_init) (Vn Γ M_X7_init (rt none (sI (sI (sI Z 6 2 q (-1)) 6 0 q t) 6 1 q m))) (0, 0) 0 [some (.ref q), some (.int t), some (.int m)] [] Z
  refine G_aload_n (pc := 0) dX7_init_0 rfl ?_
  refine G_objInit (pc := 1) lo_X7_3 wIO ⟨by decide, Nat.le_of_ble_eq_true rfl⟩ dX7_init_1 ?_
  refine G_aload_n (pc := 4) dX7_init_4 rfl ?_
  refine G_iconst (pc := 5) (v := -1) dX7_init_5 (by first | rfl | decide) ?_
  refine G_putI (pc := 6) fl_X7_9 fw_6_2 hk rfl dX7_init_6 ?_
  refine G_aload_n (pc := 9) dX7_init_9 rfl ?_
  refine G_iload_n (pc := 10) dX7_init_10 rfl ?_
  refine G_putIF (pc := 11) fl_X7_15 ff_X7_6_0 rfl hk rfl dX7_init_11 ?_
  refine G_aload_n (pc := 14) dX7_init_14 rfl ?_
  refine G_iload_n (pc := 15) dX7_init_15 rfl ?_
  refine G_putIF (pc := 16) fl_X7_18 ff_X7_6_1 rfl hk rfl dX7_init_16 ?_
  refine G_vret (pc := 19) VZ.n dX7_init_19 rfl ⟨by decide, by decide⟩ ?_
  exact ⟨rfl, rfl⟩
theorem C_putOn0 {Γ : GTy} {Z : HS} {n : Nat} {F A : FT} {g : GN} (h : CI n Z F g A) {t f : Nat} (ht : t < 4) (hf : f < g 16 0) (hl : F 112 f = 0) : Tn Γ M_X9_putFrameOn [.ref 800000, .ref (200000 + f), .ref (700000 + t), .int (nI t)] Z (rt none (sR (sR Z 2 5 (200000 + f) (some (700000 + t))) 7 3 (700000 + t) (some (200000 + f)))) := by
  refine Tn_of' rfl rfl rfl ?_
  show G Γ M_X9_putFrameOn (rm M_X9_putFrameOn) (Vn Γ M_X9_putFrameOn (rt none (sR (sR Z 2 5 (200000 + f) (some (700000 + t))) 7 3 (700000 + t) (some (200000 + f))))) (0, 0) 0 [some (.ref 800000), some (.ref (200000 + f)), some (.ref (700000 + t)), some (.int (nI t)), none] [] Z
  have h0 := h
  obtain ⟨hH, ⟨hPI, hPG, hZo⟩, ⟨hZh, hZd, hZw⟩, ⟨hZt, hZc, hZf⟩, ⟨hZr, hZs, hZl⟩, hZfr, hZbd⟩ := h0
  refine G_aload_n (pc := 0) dX9_putFrameOn_0 rfl ?_
  refine G_aload_n (pc := 1) dX9_putFrameOn_1 rfl ?_
  refine G_putR (pc := 2) (o := some _) rfl (fun _ h => by cases h; rw [(hH.2.2.1 t ht).1]; decide) fl_X9_185 fw_2_5 (hZf f hf).1.1 rfl dX9_putFrameOn_2 ?_
  refine G_aload_n (pc := 5) dX9_putFrameOn_5 rfl ?_
  refine G_aload_n (pc := 6) dX9_putFrameOn_6 rfl ?_
  refine G_putR (pc := 7) (o := some _) rfl (fun _ h => by cases h; exact (show xK Z (200000 + f) ≠ 99 by rw [(hZf f hf).1.1]; decide)) fl_X9_257 fw_7_3 (hH.2.2.1 t ht).1 rfl dX9_putFrameOn_7 ?_
  refine G_aload_n (pc := 10) dX9_putFrameOn_10 rfl ?_
  refine G_getIv (pc := 11) (c := 2) (i := 3) (v := F 112 f) (hZf f hf).2.2.1.2.2.2 fl_X9_173 (hZf f hf).1.1 rfl dX9_putFrameOn_11 ?_
  refine G_if_ne (pc := 14) (tgt := 18) dX9_putFrameOn_14 (by decide) (fun c14 => ?_) (fun c14 => ?_)
  · exact absurd hl c14
  · skip
    refine G_vret (pc := 17) VZ.n dX9_putFrameOn_17 rfl ⟨by decide, by decide⟩ ?_
    exact ⟨rfl, rfl⟩
theorem C_putOn1 {Γ : GTy} {Z : HS} {n : Nat} {F A : FT} {g : GN} (h : CI n Z F g A) {t f : Nat} (ht : t < 4) (hf : f < g 16 0) (hn : n < 512) (hl : ¬ F 112 f = 0) : Tn Γ M_X9_putFrameOn [.ref 800000, .ref (200000 + f), .ref (700000 + t), .int (nI t)] Z (rt none (sI (sP (sR (sI (sI (sI (nO (sR (sR Z 2 5 (200000 + f) (some (700000 + t))) 7 3 (700000 + t) (some (200000 + f))) (600000 + g 18 0) 6) 6 2 (600000 + g 18 0) (-1)) 6 0 (600000 + g 18 0) (nI t)) 6 1 (600000 + g 18 0) (nI (g 15 0))) 7 4 (700000 + t) (some (600000 + g 18 0))) 1800004 (g 18 0) (some (600000 + g 18 0))) 8 12 800000 (nI (g 18 0 + 1)))) := by
  refine Tn_of' rfl rfl rfl ?_
  show G Γ M_X9_putFrameOn (rm M_X9_putFrameOn) (Vn Γ M_X9_putFrameOn (rt none (sI (sP (sR (sI (sI (sI (nO (sR (sR Z 2 5 (200000 + f) (some (700000 + t))) 7 3 (700000 + t) (some (200000 + f))) (600000 + g 18 0) 6) 6 2 (600000 + g 18 0) (-1)) 6 0 (600000 + g 18 0) (nI t)) 6 1 (600000 + g 18 0) (nI (g 15 0))) 7 4 (700000 + t) (some (600000 + g 18 0))) 1800004 (g 18 0) (some (600000 + g 18 0))) 8 12 800000 (nI (g 18 0 + 1))))) (0, 0) 0 [some (.ref 800000), some (.ref (200000 + f)), some (.ref (700000 + t)), some (.int (nI t)), none] [] Z
  have h0 := h
  obtain ⟨hH, ⟨hPI, hPG, hZo⟩, ⟨hZh, hZd, hZw⟩, ⟨hZt, hZc, hZf⟩, ⟨hZr, hZs, hZl⟩, hZfr, hZbd⟩ := h0
  have hb9 := hZbd
  unfold Zbd at hb9
  have q99 := hZfr.2.2.1 (g 18 0) (Nat.le_refl _) (by omega)
  have f20 := hPI.1.2.2
  have hO0 : SH (sR (sR Z 2 5 (200000 + f) (some (700000 + t))) 7 3 (700000 + t) (some (200000 + f))) := SH_t hH (by rw [xK_sR', xK_sR']) (by rw [xn_sR', xn_sR']) (fun c k a hc => by rw [xR_sR (by omega), xR_sR (by omega)]) (fun a i ha => by rw [xP_sR', xP_sR'])
  have q98 : xK (sR (sR Z 2 5 (200000 + f) (some (700000 + t))) 7 3 (700000 + t) (some (200000 + f))) (600000 + g 18 0) = 99 := by rw [xK_sR', xK_sR']; exact q99
  have kN : SH (nO (sR (sR Z 2 5 (200000 + f) (some (700000 + t))) 7 3 (700000 + t) (some (200000 + f))) (600000 + g 18 0) 6) := AG.SH ((AG.refl (sR (sR Z 2 5 (200000 + f) (some (700000 + t))) 7 3 (700000 + t) (some (200000 + f)))).nX q98) hO0
  have kq : xK (nO (sR (sR Z 2 5 (200000 + f) (some (700000 + t))) 7 3 (700000 + t) (some (200000 + f))) (600000 + g 18 0) 6) (600000 + g 18 0) = 6 := va_up_self _ _ _
  have kt := (kN.2.2.1 t ht).1
  have nI8 : ∀ k, xI (nO (sR (sR Z 2 5 (200000 + f) (some (700000 + t))) 7 3 (700000 + t) (some (200000 + f))) (600000 + g 18 0) 6) 8 k 800000 = xI Z 8 k 800000 := fun k => (if_neg (by omega)).trans (by rw [xI_sR', xI_sR'])
  have l15 : xI (nO (sR (sR Z 2 5 (200000 + f) (some (700000 + t))) 7 3 (700000 + t) (some (200000 + f))) (600000 + g 18 0) 6) 8 15 800000 = nI (g 15 0) := (nI8 15).trans hZh.2.2.2
  have l12 : xI (nO (sR (sR Z 2 5 (200000 + f) (some (700000 + t))) 7 3 (700000 + t) (some (200000 + f))) (600000 + g 18 0) 6) 8 12 800000 = nI (g 18 0) := (nI8 12).trans hZh.2.1.1
  refine G_aload_n (pc := 0) dX9_putFrameOn_0 rfl ?_
  refine G_aload_n (pc := 1) dX9_putFrameOn_1 rfl ?_
  refine G_putR (pc := 2) (o := some _) rfl (fun _ h => by cases h; rw [(hH.2.2.1 t ht).1]; decide) fl_X9_185 fw_2_5 (hZf f hf).1.1 rfl dX9_putFrameOn_2 ?_
  refine G_aload_n (pc := 5) dX9_putFrameOn_5 rfl ?_
  refine G_aload_n (pc := 6) dX9_putFrameOn_6 rfl ?_
  refine G_putR (pc := 7) (o := some _) rfl (fun _ h => by cases h; exact (show xK Z (200000 + f) ≠ 99 by rw [(hZf f hf).1.1]; decide)) fl_X9_257 fw_7_3 (hH.2.2.1 t ht).1 rfl dX9_putFrameOn_7 ?_
  refine G_aload_n (pc := 10) dX9_putFrameOn_10 rfl ?_
  refine G_getIv (pc := 11) (c := 2) (i := 3) (v := F 112 f) (hZf f hf).2.2.1.2.2.2 fl_X9_173 (hZf f hf).1.1 rfl dX9_putFrameOn_11 ?_
  refine G_if_ne (pc := 14) (tgt := 18) dX9_putFrameOn_14 (by decide) (fun c14 => ?_) (fun c14 => ?_)
  · skip
    refine G_new (pc := 18) (c := 6) (600000 + g 18 0) rfl q98 (by first | decide | omega) ⟨fr1 (by omega) (fr1 (by omega) (fr1 (by omega) (show _ ∉ ([] : List Nat) from List.not_mem_nil))), (show _ ∉ ([] : List Nat) from List.not_mem_nil)⟩ (by decide) cl_X9_33 wN_6.1 wN_6.2 ⟨by decide, by decide⟩ dX9_putFrameOn_18 ?_
    refine G_dup (pc := 21) dX9_putFrameOn_21 rfl ?_
    refine G_iload_n (pc := 22) dX9_putFrameOn_22 rfl ?_
    refine G_aload_n (pc := 23) dX9_putFrameOn_23 rfl ?_
    refine G_getIv (pc := 24) (c := 8) (i := 15) (v := nI (g 15 0)) l15 fl_X9_102 (sh_k kN) rfl dX9_putFrameOn_24 ?_
    refine K_I2v (pc := 27) (k' := (1, 3)) mok_X7_init lk_X9_342 rfl (aok0 rfl) dX9_putFrameOn_27 (C_stayInit kq (nI t) (nI (g 15 0))) rfl ?_
    refine G_astore (pc := 30) dX9_putFrameOn_30 (by decide) ?_
    refine G_aload_n (pc := 32) dX9_putFrameOn_32 rfl ?_
    refine G_aload (pc := 33) dX9_putFrameOn_33 rfl ?_
    refine G_putR (pc := 35) (o := some _) rfl (fun _ h => by cases h; exact (show xK (nO (sR (sR Z 2 5 (200000 + f) (some (700000 + t))) 7 3 (700000 + t) (some (200000 + f))) (600000 + g 18 0) 6) (600000 + g 18 0) ≠ 99 by rw [kq]; decide)) fl_X9_343 fw_7_4 kt rfl dX9_putFrameOn_35 ?_
    refine G_aload_n (pc := 38) dX9_putFrameOn_38 rfl ?_
    refine G_getIv (pc := 39) (c := 8) (i := 12) (v := nI (g 18 0)) l12 fl_X9_332 (sh_k kN) rfl dX9_putFrameOn_39 ?_
    refine G_aload_n (pc := 42) dX9_putFrameOn_42 rfl ?_
    refine G_getS (pc := 43) fl_X9_35 (sh_k kN) rfl (sh_r4 kN) dX9_putFrameOn_43 ?_
    refine G_alen (pc := 46) (v := nI 512) (sh_c4 kN) (by decide) (congrArg nI (sh_n4 kN)) dX9_putFrameOn_46 ?_
    refine G_icmp_geN (pc := 47) (tgt := 71) (by omega) (by omega) dX9_putFrameOn_47 (by decide) (fun c47 => ?_) (fun c47 => ?_)
    · omega
    · skip
      refine G_aload_n (pc := 50) dX9_putFrameOn_50 rfl ?_
      refine G_getS (pc := 51) fl_X9_35 (sh_k kN) rfl (sh_r4 kN) dX9_putFrameOn_51 ?_
      refine G_aload_n (pc := 54) dX9_putFrameOn_54 rfl ?_
      refine G_getIv (pc := 55) (c := 8) (i := 12) (v := nI (g 18 0)) l12 fl_X9_332 (sh_k kN) rfl dX9_putFrameOn_55 ?_
      refine G_aload (pc := 58) dX9_putFrameOn_58 rfl ?_
      refine G_aast (pc := 60) (j := (g 18 0)) (sh_c4 kN) (by decide) rfl (Nat.lt_of_lt_of_eq (show g 18 0 < 512 by omega) (sh_n4 kN).symm) (by omega) kq (by decide) rfl dX9_putFrameOn_60 ?_
      refine G_aload_n (pc := 61) dX9_putFrameOn_61 rfl ?_
      refine G_dup (pc := 62) dX9_putFrameOn_62 rfl ?_
      refine G_getIv (pc := 63) (c := 8) (i := 12) (v := nI (g 18 0)) l12 fl_X9_332 (sh_k kN) rfl dX9_putFrameOn_63 ?_
      refine G_iconst (pc := 66) (v := nI 1) dX9_putFrameOn_66 (by first | rfl | decide) ?_
      refine G_iaddN (pc := 67) dX9_putFrameOn_67 ?_
      refine G_putI (pc := 68) fl_X9_332 fw_8_12 (sh_k kN) rfl dX9_putFrameOn_68 ?_
      refine G_vret (pc := 71) VZ.n dX9_putFrameOn_71 rfl ⟨by decide, by decide⟩ ?_
      exact ⟨rfl, rfl⟩
  · exact absurd c14 hl
/-- putFrameOn: the model's frame on its table -/
theorem on_ok {Γ : GTy} {n : Nat} {Z : HS} {F A : FT} {g : GN} (h : CI n Z F g A) (hn : n < 512) {t f : Nat} (ht : t < 4) (hf : f < g 16 0) (h1 : g 1 t = 0) (hw : F 113 f = nI 1) : ∃ (L : HS) (g' : GN), CI (n + 1) L (onF F t f) g' A ∧ rF L = rF Z ∧ (∀ s, 20 ≤ s → s ≤ 22 → g' s = g s) ∧ g' 16 0 = g 16 0 ∧ Tn Γ M_X9_putFrameOn [.ref 800000, .ref (200000 + f), .ref (700000 + t), .int (nI t)] Z (rt none L) := by
  have h0 := h
  obtain ⟨hH, ⟨hPI, hPG, hZo⟩, ⟨hZh, hZd, hZw⟩, ⟨hZt, hZc, hZf⟩, ⟨hZr, hZs, hZl⟩, hZfr, hZbd⟩ := h0
  have f20 := hPI.1.2.2
  have hb9 := hZbd
  unfold Zbd at hb9
  by_cases hl : F 112 f = 0
  · exact ⟨_, _, (CIu_on0 h ht hf h1 hw hl).step hn, by rw [rF_sR, rF_sR], fun s q1 q2 => funext (fun j => nG_o (by omega)), nG_o (by decide), C_putOn0 h ht hf hl⟩
  · have c1 := C_putOn1 (Γ := Γ) h ht hf hn hl
    rw [nO_sR (by omega), nO_sR (by omega), sI_sR, sI_sR, sI_sR, sI_sR, sI_sR, sI_sR] at c1
    refine ⟨_, _, CIu_on1 h hn ht hf h1 hw hl, ?_, fun s q1 q2 => funext (fun j => g1_oo (by unfold oS; omega)), g1_oo (by decide), c1⟩
    unfold snZ nO
    rw [rF_sI (by decide), rF_sP, rF_sR, rF_sR, rF_sR, rF_sI (by decide), rF_sI (by decide), rF_sI (by decide), rF_nX (by omega) (by omega)]
