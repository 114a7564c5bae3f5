-- ===== contacts; the bills told anew =====
theorem minI {a b : Nat} (ha : a < 2 ^ 30) (hb : b < 2 ^ 30) : (if nI b < nI a then nI b else nI a) = nI (min a b) := by
  by_cases h : b < a
  · rw [if_pos ((nI_ltI (by omega) (by omega)).mpr h), Nat.min_eq_right (by omega)]
  · rw [if_neg (fun q => h ((nI_ltI (by omega) (by omega)).mp q)), Nat.min_eq_left (by omega)]
theorem maxI {a b : Nat} (ha : a < 2 ^ 30) (hb : b < 2 ^ 30) : (if nI a < nI b then nI b else nI a) = nI (max a b) := by
  by_cases h : a < b
  · rw [if_pos ((nI_ltI (by omega) (by omega)).mpr h), Nat.max_eq_right (by omega)]
  · rw [if_neg (fun q => h ((nI_ltI (by omega) (by omega)).mp q)), Nat.max_eq_left (by omega)]
theorem mwI {a b : Nat} (ha : a < 2 ^ 30) (hb : b < 2 ^ 30) : (if nI 0 < nI a - nI b then nI a - nI b else nI 0) = nI (a - b) := by
  by_cases h : b ≤ a
  · rw [pk_sub h]
    rcases Nat.eq_zero_or_pos (a - b) with e | e
    · rw [e]; rfl
    · rw [if_pos (nI_lt e (by omega))]
  · rw [show a - b = 0 by omega]
    exact if_neg (fun q => Int32.lt_irrefl (Int32.lt_trans q (pk_sneg hb (by omega))))
theorem C_within0 {Γ : GTy} {Z : HS} {q e s : Nat} (hk : xK Z q = 6) (he : xI Z 6 2 q = (if e = 20000 then -1 else nI e)) (hs : xI Z 6 1 q = nI s) (e1 : e ≤ 20000) (s1 : s ≤ 20000) {a t : Nat} (a1 : a ≤ 20000) (t1 : t ≤ 20000) (z : e = 20000) : Tn Γ M_X7_minutesWithin [.ref q, .int (nI a), .int (nI t)] Z (rt (some (.int (nI (min e t - max s a)))) Z) := by
  refine Tn_of' rfl rfl rfl ?_
  show G Γ M_X7_minutesWithin (rm M_X7_minutesWithin) (Vn Γ M_X7_minutesWithin (rt (some (.int (nI (min e t - max s a)))) Z)) (0, 0) 0 [some (.ref q), some (.int (nI a)), some (.int (nI t)), none] [] Z
  refine G_aload_n (pc := 0) dX7_minutesWithin_0 rfl ?_
  refine G_getIv (pc := 1) (v := -1) (he.trans (if_pos z)) fl_X7_9 hk rfl dX7_minutesWithin_1 ?_
  refine G_iconst (pc := 4) (v := -1) dX7_minutesWithin_4 (by first | rfl | decide) ?_
  refine G_icmp_ne (pc := 5) (tgt := 12) dX7_minutesWithin_5 (by decide) (fun h => absurd h (by decide)) (fun _ => ?_)
  refine G_iload_n (pc := 8) dX7_minutesWithin_8 rfl ?_
  refine G_goto (pc := 9) (tgt := 20) dX7_minutesWithin_9 (by decide) ?_
  refine G_istore_n (pc := 20) dX7_minutesWithin_20 (by decide) ?_
  refine G_iconst (pc := 21) (v := nI 0) dX7_minutesWithin_21 (by first | rfl | decide) ?_
  refine G_iload_n (pc := 22) dX7_minutesWithin_22 rfl ?_
  refine G_aload_n (pc := 23) dX7_minutesWithin_23 rfl ?_
  refine G_getIv (pc := 24) (v := nI s) hs fl_X7_18 hk rfl dX7_minutesWithin_24 ?_
  refine G_iload_n (pc := 27) dX7_minutesWithin_27 rfl ?_
  refine G_max (pc := 28) lm_X7_27 wmax ⟨by decide, Nat.le_of_ble_eq_true rfl⟩ ⟨by decide, by decide⟩ dX7_minutesWithin_28 ?_
  rw [maxI (by omega) (by omega)]
  refine G_isub (pc := 31) dX7_minutesWithin_31 ?_
  refine G_max (pc := 32) lm_X7_27 wmax ⟨by decide, Nat.le_of_ble_eq_true rfl⟩ ⟨by decide, by decide⟩ dX7_minutesWithin_32 ?_
  rw [mwI (by omega) (by omega)]
  refine G_iret (pc := 35) VZ.n dX7_minutesWithin_35 rfl ⟨by decide, by decide⟩ ?_
  rw [Nat.min_eq_right (by omega)]
  exact ⟨rfl, rfl⟩
theorem C_within1 {Γ : GTy} {Z : HS} {q e s : Nat} (hk : xK Z q = 6) (he : xI Z 6 2 q = (if e = 20000 then -1 else nI e)) (hs : xI Z 6 1 q = nI s) (e1 : e ≤ 20000) (s1 : s ≤ 20000) {a t : Nat} (a1 : a ≤ 20000) (t1 : t ≤ 20000) (z : e ≠ 20000) : Tn Γ M_X7_minutesWithin [.ref q, .int (nI a), .int (nI t)] Z (rt (some (.int (nI (min e t - max s a)))) Z) := by
  refine Tn_of' rfl rfl rfl ?_
  show G Γ M_X7_minutesWithin (rm M_X7_minutesWithin) (Vn Γ M_X7_minutesWithin (rt (some (.int (nI (min e t - max s a)))) Z)) (0, 0) 0 [some (.ref q), some (.int (nI a)), some (.int (nI t)), none] [] Z
  refine G_aload_n (pc := 0) dX7_minutesWithin_0 rfl ?_
  refine G_getIv (pc := 1) (v := nI e) (he.trans (if_neg z)) fl_X7_9 hk rfl dX7_minutesWithin_1 ?_
  refine G_iconst (pc := 4) (v := -1) dX7_minutesWithin_4 (by first | rfl | decide) ?_
  refine G_icmp_ne (pc := 5) (tgt := 12) dX7_minutesWithin_5 (by decide) (fun c5 => ?_) (fun c5 => ?_)
  · skip
    refine G_aload_n (pc := 12) dX7_minutesWithin_12 rfl ?_
    refine G_getIv (pc := 13) (v := nI e) (he.trans (if_neg z)) fl_X7_9 hk rfl dX7_minutesWithin_13 ?_
    refine G_iload_n (pc := 16) dX7_minutesWithin_16 rfl ?_
    refine G_min (pc := 17) lm_X7_21 wmin ⟨by decide, Nat.le_of_ble_eq_true rfl⟩ ⟨by decide, by decide⟩ dX7_minutesWithin_17 ?_
    rw [minI (by omega) (by omega)]
    refine G_istore_n (pc := 20) dX7_minutesWithin_20 (by decide) ?_
    refine G_iconst (pc := 21) (v := nI 0) dX7_minutesWithin_21 (by first | rfl | decide) ?_
    refine G_iload_n (pc := 22) dX7_minutesWithin_22 rfl ?_
    refine G_aload_n (pc := 23) dX7_minutesWithin_23 rfl ?_
    refine G_getIv (pc := 24) (v := nI s) hs fl_X7_18 hk rfl dX7_minutesWithin_24 ?_
    refine G_iload_n (pc := 27) dX7_minutesWithin_27 rfl ?_
    refine G_max (pc := 28) lm_X7_27 wmax ⟨by decide, Nat.le_of_ble_eq_true rfl⟩ ⟨by decide, by decide⟩ dX7_minutesWithin_28 ?_
    rw [maxI (by omega) (by omega)]
    refine G_isub (pc := 31) dX7_minutesWithin_31 ?_
    refine G_max (pc := 32) lm_X7_27 wmax ⟨by decide, Nat.le_of_ble_eq_true rfl⟩ ⟨by decide, by decide⟩ dX7_minutesWithin_32 ?_
    rw [mwI (by omega) (by omega)]
    refine G_iret (pc := 35) VZ.n dX7_minutesWithin_35 rfl ⟨by decide, by decide⟩ ?_
    exact ⟨rfl, rfl⟩
  · exact absurd c5 (nI_nm1 (by omega))
theorem C_within {Γ : GTy} {Z : HS} {q e s : Nat} (hk : xK Z q = 6) (he : xI Z 6 2 q = (if e = 20000 then -1 else nI e)) (hs : xI Z 6 1 q = nI s) (e1 : e ≤ 20000) (s1 : s ≤ 20000) {a t : Nat} (a1 : a ≤ 20000) (t1 : t ≤ 20000) : Tn Γ M_X7_minutesWithin [.ref q, .int (nI a), .int (nI t)] Z (rt (some (.int (nI (min e t - max s a)))) Z) := by
  by_cases z : e = 20000
  · exact C_within0 hk he hs e1 s1 a1 t1 z
  · exact C_within1 hk he hs e1 s1 a1 t1 z
theorem C_rClosed {Γ : GTy} {Z : HS} {q : Nat} (hk : xK Z q = 5) {w : Int32} (he : xI Z 5 3 q = w) : Tn Γ M_X5_isClosed [.ref q] Z (rt (some (.int (b2 (¬ w = -1)))) Z) := by
  refine Tn_of' rfl rfl rfl ?_
  show G Γ M_X5_isClosed (rm M_X5_isClosed) (Vn Γ M_X5_isClosed (rt (some (.int (b2 (¬ w = -1)))) Z)) (0, 0) 0 [some (.ref q)] [] Z
  refine G_aload_n (pc := 0) dX5_isClosed_0 rfl ?_
  refine G_getIv (pc := 1) (v := w) he fl_X5_9 hk rfl dX5_isClosed_1 ?_
  refine G_iconst (pc := 4) (v := -1) dX5_isClosed_4 (by first | rfl | decide) ?_
  refine G_icmp_eq (pc := 5) (tgt := 12) dX5_isClosed_5 (by decide) (fun c5 => ?_) (fun c5 => ?_)
  · skip
    have e9 := b2_f (p := ¬ w = -1) (fun g => g c5)
    refine G_iconst (pc := 12) (v := nI 0) dX5_isClosed_12 (by first | rfl | decide) ?_
    refine G_zret (pc := 13) VZ.n dX5_isClosed_13 rfl (Or.inl rfl) ⟨by decide, by decide⟩ ?_
    exact ⟨congrArg (fun z => some (Value.int z)) e9.symm, rfl⟩
  · skip
    have e9 := b2_t (p := ¬ w = -1) c5
    refine G_iconst (pc := 8) (v := nI 1) dX5_isClosed_8 (by first | rfl | decide) ?_
    refine G_goto (pc := 9) (tgt := 13) dX5_isClosed_9 (by decide) ?_
    refine G_zret (pc := 13) VZ.n dX5_isClosed_13 rfl (Or.inr rfl) ⟨by decide, by decide⟩ ?_
    exact ⟨congrArg (fun z => some (Value.int z)) e9.symm, rfl⟩
theorem C_lClosed {Γ : GTy} {Z : HS} {q : Nat} (hk : xK Z q = 3) : Tn Γ M_X3_isClosed [.ref q] Z (rt (some (.int (b2 (¬ xI Z 3 2 q = -1)))) Z) := by
  refine Tn_of' rfl rfl rfl ?_
  show G Γ M_X3_isClosed (rm M_X3_isClosed) (Vn Γ M_X3_isClosed (rt (some (.int (b2 (¬ xI Z 3 2 q = -1)))) Z)) (0, 0) 0 [some (.ref q)] [] Z
  refine G_aload_n (pc := 0) dX3_isClosed_0 rfl ?_
  refine G_getI (pc := 1) fl_X3_9 hk rfl dX3_isClosed_1 ?_
  refine G_iconst (pc := 4) (v := -1) dX3_isClosed_4 (by first | rfl | decide) ?_
  refine G_icmp_eq (pc := 5) (tgt := 12) dX3_isClosed_5 (by decide) (fun c5 => ?_) (fun c5 => ?_)
  · skip
    have e9 := b2_f (p := ¬ xI Z 3 2 q = -1) (fun g => g c5)
    refine G_iconst (pc := 12) (v := nI 0) dX3_isClosed_12 (by first | rfl | decide) ?_
    refine G_zret (pc := 13) VZ.n dX3_isClosed_13 rfl (Or.inl rfl) ⟨by decide, by decide⟩ ?_
    exact ⟨congrArg (fun z => some (Value.int z)) e9.symm, rfl⟩
  · skip
    have e9 := b2_t (p := ¬ xI Z 3 2 q = -1) c5
    refine G_iconst (pc := 8) (v := nI 1) dX3_isClosed_8 (by first | rfl | decide) ?_
    refine G_goto (pc := 9) (tgt := 13) dX3_isClosed_9 (by decide) ?_
    refine G_zret (pc := 13) VZ.n dX3_isClosed_13 rfl (Or.inr rfl) ⟨by decide, by decide⟩ ?_
    exact ⟨congrArg (fun z => some (Value.int z)) e9.symm, rfl⟩
theorem C_kept {Γ : GTy} {Z : HS} {q : Nat} (hk : xK Z q = 3) : Tn Γ M_X3_coinsKept [.ref q] Z (rt (some (.int ((xI Z 3 2 q - xI Z 3 1 q) / nI 5))) Z) := by
  refine Tn_of' rfl rfl rfl ?_
  show G Γ M_X3_coinsKept (rm M_X3_coinsKept) (Vn Γ M_X3_coinsKept (rt (some (.int ((xI Z 3 2 q - xI Z 3 1 q) / nI 5))) Z)) (0, 0) 0 [some (.ref q)] [] Z
  refine G_aload_n (pc := 0) dX3_coinsKept_0 rfl ?_
  refine G_getI (pc := 1) fl_X3_9 hk rfl dX3_coinsKept_1 ?_
  refine G_aload_n (pc := 4) dX3_coinsKept_4 rfl ?_
  refine G_getI (pc := 5) fl_X3_18 hk rfl dX3_coinsKept_5 ?_
  refine G_isub (pc := 8) dX3_coinsKept_8 ?_
  refine G_iconst (pc := 9) (v := nI 5) dX3_coinsKept_9 (by first | rfl | decide) ?_
  refine G_idiv (pc := 10) dX3_coinsKept_10 (by decide) ?_
  refine G_iret (pc := 11) VZ.n dX3_coinsKept_11 rfl ⟨by decide, by decide⟩ ?_
  exact ⟨rfl, rfl⟩
theorem C_billFor {Γ : GTy} {Z : HS} (x y : Int32) : Tn Γ M_X9_billFor [.int x, .int y] Z (rt (some (.int ((x + nI 9) / nI 10 * y))) Z) := by
  refine Tn_of' rfl rfl rfl ?_
  show G Γ M_X9_billFor (rm M_X9_billFor) (Vn Γ M_X9_billFor (rt (some (.int ((x + nI 9) / nI 10 * y))) Z)) (0, 0) 0 [some (.int x), some (.int y)] [] Z
  refine G_iload_n (pc := 0) dX9_billFor_0 rfl ?_
  refine G_bipush (pc := 1) (v := nI 9) dX9_billFor_1 (by first | rfl | decide) ?_
  refine G_iadd (pc := 3) dX9_billFor_3 ?_
  refine G_bipush (pc := 4) (v := nI 10) dX9_billFor_4 (by first | rfl | decide) ?_
  refine G_idiv (pc := 6) dX9_billFor_6 (by decide) ?_
  refine G_iload_n (pc := 7) dX9_billFor_7 rfl ?_
  refine G_imul (pc := 8) dX9_billFor_8 ?_
  refine G_iret (pc := 9) VZ.n dX9_billFor_9 rfl ⟨by decide, by decide⟩ ?_
  exact ⟨rfl, rfl⟩
theorem C_leagueMin {Γ : GTy} {Z : HS} {n : Nat} {F A : FT} {g : GN} (h : CI n Z F g A) {r : Nat} (hr : r < g 17 0) (hcl : g 9 r ≠ 20000) : Tn Γ M_X9_leagueMinutes [.ref 800000, .ref (500000 + r)] Z (rt (some (.int (nI (lmS g (g 6 r) (g 8 r) (g 9 r) (g 18 0))))) Z) := by
  refine Tn_of' rfl rfl rfl ?_
  show G Γ M_X9_leagueMinutes (rm M_X9_leagueMinutes) (Vn Γ M_X9_leagueMinutes (rt (some (.int (nI (lmS g (g 6 r) (g 8 r) (g 9 r) (g 18 0))))) Z)) (0, 0) 0 [some (.ref 800000), some (.ref (500000 + r)), none, none, none] [] Z
  have h0 := h
  obtain ⟨hH, ⟨hPI, hPG, hZo⟩, ⟨hZh, hZd, hZw⟩, ⟨hZt, hZc, hZf⟩, ⟨hZr, hZs, hZl⟩, hZfr, hZbd⟩ := h0
  have a1 := hPG.1 r hr
  have a2 := a1.2.2.2 hcl
  have hq9 := hZbd
  unfold Zbd at hq9
  have hnow := hPI.1.1.2
  have hinj : ∀ s, s < g 18 0 → nI (g 11 s) = nI (g 6 r) → g 11 s = g 6 r := fun s hs e => (nI_eq (by have := (hPG.2.2.1 s hs).1.2; omega) (by omega)).mp e
  have loop : ∀ (n9 j : Nat) (v4 : Option Value), j + n9 = (g 18 0) → G Γ M_X9_leagueMinutes (rm M_X9_leagueMinutes) (Vn Γ M_X9_leagueMinutes (rt (some (.int (nI (lmS g (g 6 r) (g 8 r) (g 9 r) (g 18 0))))) Z)) (0, 0) 4 [some (.ref 800000), some (.ref (500000 + r)), some (.int (nI (lmS g (g 6 r) (g 8 r) (g 9 r) j))), some (.int (nI j)), v4] [] Z := by
    intro n9
    induction n9 with
    | zero =>
      intro j v4 hj
      have hj8 : j = (g 18 0) := by omega
      rw [hj8]
      refine G_iload_n (pc := 4) dX9_leagueMinutes_4 rfl ?_
      refine G_aload_n (pc := 5) dX9_leagueMinutes_5 rfl ?_
      refine G_getIv (pc := 6) (v := nI (g 18 0)) hZh.2.1.1 fl_X9_332 (sh_k hH) rfl dX9_leagueMinutes_6 ?_
      refine G_icmp_geN (pc := 9) (tgt := 68) (by omega) (by omega) dX9_leagueMinutes_9 (by decide) (fun c9 => ?_) (fun c9 => ?_)
      · skip
        refine G_iload_n (pc := 68) dX9_leagueMinutes_68 rfl ?_
        refine G_iret (pc := 69) VZ.n dX9_leagueMinutes_69 rfl ⟨by decide, by decide⟩ ?_
        exact ⟨rfl, rfl⟩
      · omega
    | succ n9 ih =>
      intro j v4 hj
      have hj9 : j < (g 18 0) := by omega
      refine G_iload_n (pc := 4) dX9_leagueMinutes_4 rfl ?_
      refine G_aload_n (pc := 5) dX9_leagueMinutes_5 rfl ?_
      refine G_getIv (pc := 6) (v := nI (g 18 0)) hZh.2.1.1 fl_X9_332 (sh_k hH) rfl dX9_leagueMinutes_6 ?_
      refine G_icmp_geN (pc := 9) (tgt := 68) (by omega) (by omega) dX9_leagueMinutes_9 (by decide) (fun c9 => ?_) (fun c9 => ?_)
      · omega
      · skip
        refine G_iload_n (pc := 12) dX9_leagueMinutes_12 rfl ?_
        refine G_aload_n (pc := 13) dX9_leagueMinutes_13 rfl ?_
        refine G_getS (pc := 14) fl_X9_35 (sh_k hH) rfl (sh_r4 hH) dX9_leagueMinutes_14 ?_
        refine G_alen (pc := 17) (v := nI 512) (sh_c4 hH) (by decide) (congrArg nI (sh_n4 hH)) dX9_leagueMinutes_17 ?_
        refine G_icmp_geN (pc := 18) (tgt := 68) (by omega) (by omega) dX9_leagueMinutes_18 (by decide) (fun c18 => ?_) (fun c18 => ?_)
        · omega
        · skip
          refine G_aload_n (pc := 21) dX9_leagueMinutes_21 rfl ?_
          refine G_getS (pc := 22) fl_X9_35 (sh_k hH) rfl (sh_r4 hH) dX9_leagueMinutes_22 ?_
          refine G_iload_n (pc := 25) dX9_leagueMinutes_25 rfl ?_
          refine G_aaldS (pc := 26) (j := j) (sh_c4 hH) (by decide) rfl (Nat.lt_of_lt_of_eq (show j < 512 by omega) (sh_n4 hH).symm) (by omega) (hZs j hj9).2.1 dX9_leagueMinutes_26 ?_
          refine G_astore (pc := 27) dX9_leagueMinutes_27 (by decide) ?_
          refine G_aload (pc := 29) dX9_leagueMinutes_29 rfl ?_
          refine G_ifnull_r (pc := 31) dX9_leagueMinutes_31 ?_
          refine G_aload (pc := 34) dX9_leagueMinutes_34 rfl ?_
          refine G_getIv (pc := 36) (v := nI (g 11 j)) (hZs j hj9).2.2.1.1 fl_X9_335 (hZs j hj9).1 rfl dX9_leagueMinutes_36 ?_
          refine G_aload_n (pc := 39) dX9_leagueMinutes_39 rfl ?_
          refine G_getIv (pc := 40) (v := nI (g 6 r)) (hZr r hr).2.2.1.1 fl_X9_337 (hZr r hr).1 rfl dX9_leagueMinutes_40 ?_
          have g11 := (hPG.2.2.1 j hj9)
          refine G_icmp_ne (pc := 43) (tgt := 62) dX9_leagueMinutes_43 (by decide) (fun c43 => ?_) (fun c43 => ?_)
          · skip
            refine G_iincN (pc := 62) dX9_leagueMinutes_62 rfl (by decide) ?_
            refine G_goto (pc := 65) (tgt := 4) dX9_leagueMinutes_65 (by decide) ?_
            have h9 := ih (j + 1) (some (.ref (600000 + j))) (by omega)
            first
              | (rw [show lmS g (g 6 r) (g 8 r) (g 9 r) (j + 1) = lmS g (g 6 r) (g 8 r) (g 9 r) j from congrArg (fun x => _ + x) (if_neg (fun q => c43 (by rw [q])))] at h9; exact h9)
              | (rw [show lmS g (g 6 r) (g 8 r) (g 9 r) (j + 1) = lmS g (g 6 r) (g 8 r) (g 9 r) j + (min (g 13 j) (g 9 r) - max (g 12 j) (g 8 r)) from congrArg (fun x => _ + x) (if_pos e43)] at h9; exact h9)
          · skip
            have e43 : g 11 j = g 6 r := hinj j hj9 c43
            refine G_iload_n (pc := 46) dX9_leagueMinutes_46 rfl ?_
            refine G_aload (pc := 47) dX9_leagueMinutes_47 rfl ?_
            refine G_aload_n (pc := 49) dX9_leagueMinutes_49 rfl ?_
            refine G_getIv (pc := 50) (v := nI (g 8 r)) (hZr r hr).2.2.1.2.2 fl_X9_324 (hZr r hr).1 rfl dX9_leagueMinutes_50 ?_
            refine G_aload_n (pc := 53) dX9_leagueMinutes_53 rfl ?_
            refine G_getIv (pc := 54) (v := nI (g 9 r)) ((hZr r hr).2.2.2.1.trans (if_neg hcl)) fl_X9_321 (hZr r hr).1 rfl dX9_leagueMinutes_54 ?_
            refine K_Vn2r (pc := 57) (k' := (0, 0)) mok_X7_minutesWithin lk_X9_338 (hZs j hj9).1 rfl rfl rfl (aok0 rfl) dX9_leagueMinutes_57 (C_within (hZs j hj9).1 (hZs j hj9).2.2.2 (hZs j hj9).2.2.1.2 (by omega) (by omega) (by omega) (by omega)) rfl ?_
            refine G_iaddN (pc := 60) dX9_leagueMinutes_60 ?_
            refine G_istore_n (pc := 61) dX9_leagueMinutes_61 (by decide) ?_
            refine G_iincN (pc := 62) dX9_leagueMinutes_62 rfl (by decide) ?_
            refine G_goto (pc := 65) (tgt := 4) dX9_leagueMinutes_65 (by decide) ?_
            have h9 := ih (j + 1) (some (.ref (600000 + j))) (by omega)
            first
              | (rw [show lmS g (g 6 r) (g 8 r) (g 9 r) (j + 1) = lmS g (g 6 r) (g 8 r) (g 9 r) j from congrArg (fun x => _ + x) (if_neg (fun q => c43 (by rw [q])))] at h9; exact h9)
              | (rw [show lmS g (g 6 r) (g 8 r) (g 9 r) (j + 1) = lmS g (g 6 r) (g 8 r) (g 9 r) j + (min (g 13 j) (g 9 r) - max (g 12 j) (g 8 r)) from congrArg (fun x => _ + x) (if_pos e43)] at h9; exact h9)
  refine G_iconst (pc := 0) (v := nI 0) dX9_leagueMinutes_0 (by first | rfl | decide) ?_
  refine G_istore_n (pc := 1) dX9_leagueMinutes_1 (by decide) ?_
  refine G_iconst (pc := 2) (v := nI 0) dX9_leagueMinutes_2 (by first | rfl | decide) ?_
  refine G_istore_n (pc := 3) dX9_leagueMinutes_3 (by decide) ?_
  exact loop _ 0 none (Nat.zero_add _)
theorem C_billsAnew {Γ : GTy} {Z : HS} {n : Nat} {F A : FT} {g : GN} (h : CI n Z F g A) {c : Nat} (hc : c < 8) : Tn Γ M_X9_billsAnew [.ref 800000, .int (nI c)] Z (rt (some (.int (smR g A c (g 17 0)))) Z) := by
  refine Tn_of' rfl rfl rfl ?_
  show G Γ M_X9_billsAnew (rm M_X9_billsAnew) (Vn Γ M_X9_billsAnew (rt (some (.int (smR g A c (g 17 0)))) Z)) (0, 0) 0 [some (.ref 800000), some (.int (nI c)), none, none, none, none] [] Z
  have h0 := h
  obtain ⟨hH, ⟨hPI, hPG, hZo⟩, ⟨hZh, hZd, hZw⟩, ⟨hZt, hZc, hZf⟩, ⟨hZr, hZs, hZl⟩, hZfr, hZbd⟩ := h0
  have hq9 := hZbd
  unfold Zbd at hq9
  have hnow := hPI.1.1.2
  have loop : ∀ (n9 j : Nat) (v4 v5 : Option Value), j + n9 = (g 17 0) → G Γ M_X9_billsAnew (rm M_X9_billsAnew) (Vn Γ M_X9_billsAnew (rt (some (.int (smR g A c (g 17 0)))) Z)) (0, 0) 4 [some (.ref 800000), some (.int (nI c)), some (.int (smR g A c j)), some (.int (nI j)), v4, v5] [] Z := by
    intro n9
    induction n9 with
    | zero =>
      intro j v4 v5 hj
      have hj8 : j = (g 17 0) := by omega
      rw [hj8]
      refine G_iload_n (pc := 4) dX9_billsAnew_4 rfl ?_
      refine G_aload_n (pc := 5) dX9_billsAnew_5 rfl ?_
      refine G_getIv (pc := 6) (v := nI (g 17 0)) hZh.1.2 fl_X9_110 (sh_k hH) rfl dX9_billsAnew_6 ?_
      refine G_icmp_geN (pc := 9) (tgt := 90) (by omega) (by omega) dX9_billsAnew_9 (by decide) (fun c9 => ?_) (fun c9 => ?_)
      · skip
        refine G_iload_n (pc := 90) dX9_billsAnew_90 rfl ?_
        refine G_iret (pc := 91) VZ.n dX9_billsAnew_91 rfl ⟨by decide, by decide⟩ ?_
        exact ⟨rfl, rfl⟩
      · omega
    | succ n9 ih =>
      intro j v4 v5 hj
      have hj9 : j < (g 17 0) := by omega
      refine G_iload_n (pc := 4) dX9_billsAnew_4 rfl ?_
      refine G_aload_n (pc := 5) dX9_billsAnew_5 rfl ?_
      refine G_getIv (pc := 6) (v := nI (g 17 0)) hZh.1.2 fl_X9_110 (sh_k hH) rfl dX9_billsAnew_6 ?_
      refine G_icmp_geN (pc := 9) (tgt := 90) (by omega) (by omega) dX9_billsAnew_9 (by decide) (fun c9 => ?_) (fun c9 => ?_)
      · omega
      · skip
        refine G_iload_n (pc := 12) dX9_billsAnew_12 rfl ?_
        refine G_aload_n (pc := 13) dX9_billsAnew_13 rfl ?_
        refine G_getS (pc := 14) fl_X9_29 (sh_k hH) rfl (sh_r3 hH) dX9_billsAnew_14 ?_
        refine G_alen (pc := 17) (v := nI 512) (sh_c3 hH) (by decide) (congrArg nI (sh_n3 hH)) dX9_billsAnew_17 ?_
        refine G_icmp_geN (pc := 18) (tgt := 90) (by omega) (by omega) dX9_billsAnew_18 (by decide) (fun c18 => ?_) (fun c18 => ?_)
        · omega
        · skip
          refine G_aload_n (pc := 21) dX9_billsAnew_21 rfl ?_
          refine G_getS (pc := 22) fl_X9_29 (sh_k hH) rfl (sh_r3 hH) dX9_billsAnew_22 ?_
          refine G_iload_n (pc := 25) dX9_billsAnew_25 rfl ?_
          refine G_aaldS (pc := 26) (j := j) (sh_c3 hH) (by decide) rfl (Nat.lt_of_lt_of_eq (show j < 512 by omega) (sh_n3 hH).symm) (by omega) (hZr j hj9).2.1 dX9_billsAnew_26 ?_
          refine G_astore (pc := 27) dX9_billsAnew_27 (by decide) ?_
          refine G_aload (pc := 29) dX9_billsAnew_29 rfl ?_
          refine G_ifnull_r (pc := 31) dX9_billsAnew_31 ?_
          refine G_aload (pc := 34) dX9_billsAnew_34 rfl ?_
          refine G_getIv (pc := 36) (v := nI (g 7 j)) (hZr j hj9).2.2.1.2.1 fl_X9_256 (hZr j hj9).1 rfl dX9_billsAnew_36 ?_
          refine G_iload_n (pc := 39) dX9_billsAnew_39 rfl ?_
          have a1 := hPG.1 j hj9
          refine G_icmp_neN (pc := 40) (tgt := 84) (by omega) (by omega) dX9_billsAnew_40 (by decide) (fun c40 => ?_) (fun c40 => ?_)
          · skip
            have e9 : smR g A c (j + 1) = smR g A c j + 0 := congrArg (fun x => smR g A c j + x) (if_neg (fun q => c40 q.1))
            refine G_iincN (pc := 84) dX9_billsAnew_84 rfl (by decide) ?_
            refine G_goto (pc := 87) (tgt := 4) dX9_billsAnew_87 (by decide) ?_
            have h9 := fun v4 v5 => ih (j + 1) v4 v5 (by omega)
            simp only [e9, Int32.add_zero] at h9
            exact h9 _ _
          · skip
            refine G_aload (pc := 43) dX9_billsAnew_43 rfl ?_
            refine K_Vn0r (pc := 45) (k' := (0, 0)) mok_X5_isClosed lk_X9_318 (hZr j hj9).1 rfl rfl rfl (aok0 rfl) dX9_billsAnew_45 (C_rClosed (hZr j hj9).1 (hZr j hj9).2.2.2.1) rfl ?_
            refine G_if_eqB (pc := 48) (tgt := 84) dX9_billsAnew_48 (by decide) (fun c48 => ?_) (fun c48 => ?_)
            · skip
              have e9 : smR g A c (j + 1) = smR g A c j + 0 := congrArg (fun x => smR g A c j + x) (if_neg (fun q => c48 (by rw [if_neg q.2]; exact nI_nm1 (by omega))))
              refine G_iincN (pc := 84) dX9_billsAnew_84 rfl (by decide) ?_
              refine G_goto (pc := 87) (tgt := 4) dX9_billsAnew_87 (by decide) ?_
              have h9 := fun v4 v5 => ih (j + 1) v4 v5 (by omega)
              simp only [e9, Int32.add_zero] at h9
              exact h9 _ _
            · skip
              have hcl : g 9 j ≠ 20000 := fun q => c48 (if_pos q)
              have a2 := a1.2.2.2 hcl
              have e9 : smR g A c (j + 1) = smR g A c j + A 0 j := congrArg (fun x => smR g A c j + x) (if_pos ⟨c40, hcl⟩)
              refine G_aload (pc := 51) dX9_billsAnew_51 rfl ?_
              refine G_getIv (pc := 53) (v := nI (g 9 j)) ((hZr j hj9).2.2.2.1.trans (if_neg hcl)) fl_X9_321 (hZr j hj9).1 rfl dX9_billsAnew_53 ?_
              refine G_aload (pc := 56) dX9_billsAnew_56 rfl ?_
              refine G_getIv (pc := 58) (v := nI (g 8 j)) (hZr j hj9).2.2.1.2.2 fl_X9_324 (hZr j hj9).1 rfl dX9_billsAnew_58 ?_
              refine G_isubN (pc := 61) (by omega) dX9_billsAnew_61 ?_
              refine G_aload_n (pc := 62) dX9_billsAnew_62 rfl ?_
              refine G_aload (pc := 63) dX9_billsAnew_63 rfl ?_
              refine K_Vn1r (pc := 65) (k' := (0, 0)) mok_X9_leagueMinutes lk_X9_327 (sh_k hH) rfl rfl rfl (aok0 rfl) dX9_billsAnew_65 (C_leagueMin h hj9 hcl) rfl ?_
              refine G_isubN (pc := 68) (by omega) dX9_billsAnew_68 ?_
              rw [show g 9 j - g 8 j - lmS g (g 6 j) (g 8 j) (g 9 j) (g 18 0) = g 10 j by omega]
              refine G_istore (pc := 69) dX9_billsAnew_69 (by decide) ?_
              refine G_iload_n (pc := 71) dX9_billsAnew_71 rfl ?_
              refine G_iload (pc := 72) dX9_billsAnew_72 rfl ?_
              refine G_aload (pc := 74) dX9_billsAnew_74 rfl ?_
              refine G_getI (pc := 76) fl_X9_331 (hZr j hj9).1 rfl dX9_billsAnew_76 ?_
              refine K_Sn2r (pc := 79) (k' := (0, 0)) mok_X9_billFor lk_X9_314 rfl (aok0 rfl) dX9_billsAnew_79 (C_billFor (nI (g 10 j)) _) rfl ?_
              rw [← (hZr j hj9).2.2.2.2 hcl]
              refine G_iadd (pc := 82) dX9_billsAnew_82 ?_
              refine G_istore_n (pc := 83) dX9_billsAnew_83 (by decide) ?_
              refine G_iincN (pc := 84) dX9_billsAnew_84 rfl (by decide) ?_
              refine G_goto (pc := 87) (tgt := 4) dX9_billsAnew_87 (by decide) ?_
              have h9 := fun v4 v5 => ih (j + 1) v4 v5 (by omega)
              simp only [e9, Int32.add_zero] at h9
              exact h9 _ _
  refine G_iconst (pc := 0) (v := nI 0) dX9_billsAnew_0 (by first | rfl | decide) ?_
  refine G_istore_n (pc := 1) dX9_billsAnew_1 (by decide) ?_
  refine G_iconst (pc := 2) (v := nI 0) dX9_billsAnew_2 (by first | rfl | decide) ?_
  refine G_istore_n (pc := 3) dX9_billsAnew_3 (by decide) ?_
  exact loop _ 0 none none (Nat.zero_add _)
theorem C_depositsAnew {Γ : GTy} {Z : HS} {n : Nat} {F A : FT} {g : GN} (h : CI n Z F g A) {c : Nat} (hc : c < 8) : Tn Γ M_X9_depositsAnew [.ref 800000, .int (nI c)] Z (rt (some (.int (smL g A c (g 19 0)))) Z) := by
  refine Tn_of' rfl rfl rfl ?_
  show G Γ M_X9_depositsAnew (rm M_X9_depositsAnew) (Vn Γ M_X9_depositsAnew (rt (some (.int (smL g A c (g 19 0)))) Z)) (0, 0) 0 [some (.ref 800000), some (.int (nI c)), none, none, none] [] Z
  have h0 := h
  obtain ⟨hH, ⟨hPI, hPG, hZo⟩, ⟨hZh, hZd, hZw⟩, ⟨hZt, hZc, hZf⟩, ⟨hZr, hZs, hZl⟩, hZfr, hZbd⟩ := h0
  have hq9 := hZbd
  unfold Zbd at hq9
  have h14 : ∀ l, l < g 19 0 → nI (g 14 l) = nI c → g 14 l = c := fun l hl e => (nI_eq (by have := (hZl l hl).2.2.1.2; omega) (by omega)).mp e
  have loop : ∀ (n9 j : Nat) (v4 : Option Value), j + n9 = (g 19 0) → G Γ M_X9_depositsAnew (rm M_X9_depositsAnew) (Vn Γ M_X9_depositsAnew (rt (some (.int (smL g A c (g 19 0)))) Z)) (0, 0) 4 [some (.ref 800000), some (.int (nI c)), some (.int (smL g A c j)), some (.int (nI j)), v4] [] Z := by
    intro n9
    induction n9 with
    | zero =>
      intro j v4 hj
      have hj8 : j = (g 19 0) := by omega
      rw [hj8]
      refine G_iload_n (pc := 4) dX9_depositsAnew_4 rfl ?_
      refine G_aload_n (pc := 5) dX9_depositsAnew_5 rfl ?_
      refine G_getIv (pc := 6) (v := nI (g 19 0)) hZh.2.1.2 fl_X9_237 (sh_k hH) rfl dX9_depositsAnew_6 ?_
      refine G_icmp_geN (pc := 9) (tgt := 70) (by omega) (by omega) dX9_depositsAnew_9 (by decide) (fun c9 => ?_) (fun c9 => ?_)
      · skip
        refine G_iload_n (pc := 70) dX9_depositsAnew_70 rfl ?_
        refine G_iret (pc := 71) VZ.n dX9_depositsAnew_71 rfl ⟨by decide, by decide⟩ ?_
        exact ⟨rfl, rfl⟩
      · omega
    | succ n9 ih =>
      intro j v4 hj
      have hj9 : j < (g 19 0) := by omega
      refine G_iload_n (pc := 4) dX9_depositsAnew_4 rfl ?_
      refine G_aload_n (pc := 5) dX9_depositsAnew_5 rfl ?_
      refine G_getIv (pc := 6) (v := nI (g 19 0)) hZh.2.1.2 fl_X9_237 (sh_k hH) rfl dX9_depositsAnew_6 ?_
      refine G_icmp_geN (pc := 9) (tgt := 70) (by omega) (by omega) dX9_depositsAnew_9 (by decide) (fun c9 => ?_) (fun c9 => ?_)
      · omega
      · skip
        refine G_iload_n (pc := 12) dX9_depositsAnew_12 rfl ?_
        refine G_aload_n (pc := 13) dX9_depositsAnew_13 rfl ?_
        refine G_getS (pc := 14) fl_X9_41 (sh_k hH) rfl (sh_r5 hH) dX9_depositsAnew_14 ?_
        refine G_alen (pc := 17) (v := nI 512) (sh_c5 hH) (by decide) (congrArg nI (sh_n5 hH)) dX9_depositsAnew_17 ?_
        refine G_icmp_geN (pc := 18) (tgt := 70) (by omega) (by omega) dX9_depositsAnew_18 (by decide) (fun c18 => ?_) (fun c18 => ?_)
        · omega
        · skip
          refine G_aload_n (pc := 21) dX9_depositsAnew_21 rfl ?_
          refine G_getS (pc := 22) fl_X9_41 (sh_k hH) rfl (sh_r5 hH) dX9_depositsAnew_22 ?_
          refine G_iload_n (pc := 25) dX9_depositsAnew_25 rfl ?_
          refine G_aaldS (pc := 26) (j := j) (sh_c5 hH) (by decide) rfl (Nat.lt_of_lt_of_eq (show j < 512 by omega) (sh_n5 hH).symm) (by omega) (hZl j hj9).2.1 dX9_depositsAnew_26 ?_
          refine G_astore (pc := 27) dX9_depositsAnew_27 (by decide) ?_
          refine G_aload (pc := 29) dX9_depositsAnew_29 rfl ?_
          refine G_ifnull_r (pc := 31) dX9_depositsAnew_31 ?_
          refine G_aload (pc := 34) dX9_depositsAnew_34 rfl ?_
          refine G_getIv (pc := 36) (v := nI (g 14 j)) (hZl j hj9).2.2.1.1 fl_X9_251 (hZl j hj9).1 rfl dX9_depositsAnew_36 ?_
          refine G_iload_n (pc := 39) dX9_depositsAnew_39 rfl ?_
          refine G_icmp_ne (pc := 40) (tgt := 64) dX9_depositsAnew_40 (by decide) (fun c40 => ?_) (fun c40 => ?_)
          · skip
            have e9 : smL g A c (j + 1) = smL g A c j + 0 := congrArg (fun x => smL g A c j + x) (if_neg (fun q => c40 (by rw [q])))
            refine G_iincN (pc := 64) dX9_depositsAnew_64 rfl (by decide) ?_
            refine G_goto (pc := 67) (tgt := 4) dX9_depositsAnew_67 (by decide) ?_
            have h9 := fun v4 => ih (j + 1) v4 (by omega)
            simp only [e9, Int32.add_zero] at h9
            exact h9 _
          · skip
            have e9 : smL g A c (j + 1) = smL g A c j + A 1 j := congrArg (fun x => smL g A c j + x) (if_pos (h14 j hj9 c40))
            refine G_iload_n (pc := 43) dX9_depositsAnew_43 rfl ?_
            refine G_aload (pc := 44) dX9_depositsAnew_44 rfl ?_
            refine K_Vn0r (pc := 46) (k' := (0, 0)) mok_X3_isClosed lk_X9_341 (hZl j hj9).1 rfl rfl rfl (aok0 rfl) dX9_depositsAnew_46 (C_lClosed (hZl j hj9).1) rfl ?_
            refine G_if_eqB (pc := 49) (tgt := 60) dX9_depositsAnew_49 (by decide) (fun c49 => ?_) (fun c49 => ?_)
            · skip
              have e8 : A 1 j = nI 20 := by
                rcases (hZl j hj9).2.2.2 with q | q
                · exact q.2
                · exact absurd q.1 c49
              refine G_bipush (pc := 60) (v := nI 20) dX9_depositsAnew_60 (by first | rfl | decide) ?_
              rw [← e8]
              refine G_iadd (pc := 62) dX9_depositsAnew_62 ?_
              refine G_istore_n (pc := 63) dX9_depositsAnew_63 (by decide) ?_
              refine G_iincN (pc := 64) dX9_depositsAnew_64 rfl (by decide) ?_
              refine G_goto (pc := 67) (tgt := 4) dX9_depositsAnew_67 (by decide) ?_
              have h9 := fun v4 => ih (j + 1) v4 (by omega)
              simp only [e9, Int32.add_zero] at h9
              exact h9 _
            · skip
              have e8 : A 1 j = (xI Z 3 2 (300000 + j) - xI Z 3 1 (300000 + j)) / nI 5 := by
                rcases (hZl j hj9).2.2.2 with q | q
                · exact absurd q.1 c49
                · exact q.2
              refine G_aload (pc := 52) dX9_depositsAnew_52 rfl ?_
              refine K_Vn0r (pc := 54) (k' := (0, 0)) mok_X3_coinsKept lk_X9_248 (hZl j hj9).1 rfl rfl rfl (aok0 rfl) dX9_depositsAnew_54 (C_kept (hZl j hj9).1) rfl ?_
              refine G_goto (pc := 57) (tgt := 62) dX9_depositsAnew_57 (by decide) ?_
              rw [← e8]
              refine G_iadd (pc := 62) dX9_depositsAnew_62 ?_
              refine G_istore_n (pc := 63) dX9_depositsAnew_63 (by decide) ?_
              refine G_iincN (pc := 64) dX9_depositsAnew_64 rfl (by decide) ?_
              refine G_goto (pc := 67) (tgt := 4) dX9_depositsAnew_67 (by decide) ?_
              have h9 := fun v4 => ih (j + 1) v4 (by omega)
              simp only [e9, Int32.add_zero] at h9
              exact h9 _
  refine G_iconst (pc := 0) (v := nI 0) dX9_depositsAnew_0 (by first | rfl | decide) ?_
  refine G_istore_n (pc := 1) dX9_depositsAnew_1 (by decide) ?_
  refine G_iconst (pc := 2) (v := nI 0) dX9_depositsAnew_2 (by first | rfl | decide) ?_
  refine G_istore_n (pc := 3) dX9_depositsAnew_3 (by decide) ?_
  exact loop _ 0 none (Nat.zero_add _)
