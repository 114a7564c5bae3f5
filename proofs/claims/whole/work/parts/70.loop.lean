-- ===== the law's loop =====
theorem cmp5 {a l : Nat} (ha : a < 2 ^ 30) (hl : l < 2 ^ 30) (h : ¬ (nI l - nI 5 < nI a)) : a + 5 ≤ l := by
  rcases Nat.lt_or_ge l 5 with q | q
  · exfalso
    apply h
    have e : nI l - nI 5 < 0 := by
      have : l = 0 ∨ l = 1 ∨ l = 2 ∨ l = 3 ∨ l = 4 := by omega
      rcases this with rfl | rfl | rfl | rfl | rfl <;> decide
    exact Int32.lt_of_lt_of_le e (nI_pos' (by omega))
  · have e : nI l - nI 5 = nI (l - 5) := by
      have e2 : nI l = nI (l - 5) + nI 5 := by rw [nI_add]; exact congrArg nI (by omega)
      rw [e2, Int32.add_sub_cancel]
    rw [e] at h
    have : ¬ (l - 5 < a) := fun w => h ((nI_ltI (by omega) (by omega)).mpr w)
    omega
theorem and63 (x : Int32) : ∃ t, t < 64 ∧ x &&& nI 63 = nI t := by
  refine ⟨(x &&& nI 63).toBitVec.toNat, ?_, ?_⟩
  · have e : (x &&& nI 63).toBitVec.toNat = x.toBitVec.toNat &&& 63 := rfl
    rw [e]
    exact Nat.lt_succ_of_le Nat.and_le_right
  · refine Int32.toBitVec_inj.mp ?_
    show _ = BitVec.ofNat 32 _
    rw [BitVec.ofNat_toNat, BitVec.setWidth_eq]
theorem law_at {Γ : GTy} (hG : GS Γ) {W : WTy} {k : Nat × Nat} {n : Nat} {Z : HS} {F A : FT} {g : GN} (h : CI n Z F g A) (hF : rF Z = F) (hn : n < 512) (h5 : 5 * n + 5 ≤ (gt Γ 4).2.1) (hL2 : (gt Γ 4).2.1 ≤ 2560) (k1 : k.1 ≤ 10000) (k2 : k.2 ≤ 100000) (next : LN Γ W n k) : G Γ M_L_law room_1 W k 32 [some (.ref (sid 4)), some (.ref 800000), some (.ref 900000), some (.ref 1990000), some (.int (nI (5 * n))), none, none] [] Z := by
  refine G_aload_n (pc := 32) dL_law_32 rfl ?_
  refine G_iload (pc := 33) dL_law_33 rfl ?_
  refine G_sald (pc := 35) (i := 4) (j := 5 * n) (by decide) rfl (by omega) (by omega) dL_law_35 ?_
  refine G_bipush (pc := 36) (v := nI 63) dL_law_36 (by first | rfl | decide) ?_
  refine G_iand (pc := 38) dL_law_38 ?_
  obtain ⟨t, ht, e⟩ := and63 ((gt Γ 4).2.2 (5 * n))
  rw [e]
  rcases Nat.lt_or_ge t 34 with q | q
  · have ht2 : t = 0 ∨ t = 1 ∨ t = 2 ∨ t = 3 ∨ t = 4 ∨ t = 5 ∨ t = 6 ∨ t = 7 ∨ t = 8 ∨ t = 9 ∨ t = 10 ∨ t = 11 ∨ t = 12 ∨ t = 13 ∨ t = 14 ∨ t = 15 ∨ t = 16 ∨ t = 17 ∨ t = 18 ∨ t = 19 ∨ t = 20 ∨ t = 21 ∨ t = 22 ∨ t = 23 ∨ t = 24 ∨ t = 25 ∨ t = 26 ∨ t = 27 ∨ t = 28 ∨ t = 29 ∨ t = 30 ∨ t = 31 ∨ t = 32 ∨ t = 33 := by omega
    rcases ht2 with rfl | rfl | rfl | rfl | rfl | rfl | rfl | rfl | rfl | rfl | rfl | rfl | rfl | rfl | rfl | rfl | rfl | rfl | rfl | rfl | rfl | rfl | rfl | rfl | rfl | rfl | rfl | rfl | rfl | rfl | rfl | rfl | rfl | rfl
    · refine G_tableIn (pc := 39) (off := 149) (tgt := 188) dL_law_39 (by decide) (by decide) rfl (by decide) ?_
      exact LC_setPrice hG h hF hn h5 hL2 k1 k2 next
    · refine G_tableIn (pc := 39) (off := 205) (tgt := 244) dL_law_39 (by decide) (by decide) rfl (by decide) ?_
      exact LC_rent hG h hF hn h5 hL2 k1 k2 next
    · refine G_tableIn (pc := 39) (off := 273) (tgt := 312) dL_law_39 (by decide) (by decide) rfl (by decide) ?_
      exact LC_end hG h hF hn h5 hL2 k1 k2 next
    · refine G_tableIn (pc := 39) (off := 329) (tgt := 368) dL_law_39 (by decide) (by decide) rfl (by decide) ?_
      exact LC_tear hG h hF hn h5 hL2 k1 k2 next
    · refine G_tableIn (pc := 39) (off := 385) (tgt := 424) dL_law_39 (by decide) (by decide) rfl (by decide) ?_
      exact LC_mend hG h hF hn h5 hL2 k1 k2 next
    · refine G_tableIn (pc := 39) (off := 441) (tgt := 480) dL_law_39 (by decide) (by decide) rfl (by decide) ?_
      exact LC_pass hG h hF hn h5 hL2 k1 k2 next
    · refine G_tableIn (pc := 39) (off := 497) (tgt := 536) dL_law_39 (by decide) (by decide) rfl (by decide) ?_
      by_cases hb : (gt Γ 4).2.2 (5 * n + 4) = 0
      · exact LC_begin0 hG h hF hn h5 hL2 k1 k2 hb next
      · exact LC_begin1 hG h hF hn h5 hL2 k1 k2 hb next
    · refine G_tableIn (pc := 39) (off := 605) (tgt := 644) dL_law_39 (by decide) (by decide) rfl (by decide) ?_
      exact LC_resume hG h hF hn h5 hL2 k1 k2 next
    · refine G_tableIn (pc := 39) (off := 673) (tgt := 712) dL_law_39 (by decide) (by decide) rfl (by decide) ?_
      exact LC_shoot hG h hF hn h5 hL2 k1 k2 next
    · refine G_tableIn (pc := 39) (off := 753) (tgt := 792) dL_law_39 (by decide) (by decide) rfl (by decide) ?_
      exact LC_lend hG h hF hn h5 hL2 k1 k2 next
    · refine G_tableIn (pc := 39) (off := 821) (tgt := 860) dL_law_39 (by decide) (by decide) rfl (by decide) ?_
      exact LC_takeBack hG h hF hn h5 hL2 k1 k2 next
    · refine G_tableIn (pc := 39) (off := 877) (tgt := 916) dL_law_39 (by decide) (by decide) rfl (by decide) ?_
      exact LC_tip hG h hF hn h5 hL2 k1 k2 next
    · refine G_tableIn (pc := 39) (off := 933) (tgt := 972) dL_law_39 (by decide) (by decide) rfl (by decide) ?_
      exact LC_minute hG h hF hn h5 hL2 k1 k2 next
    · refine G_tableIn (pc := 39) (off := 946) (tgt := 985) dL_law_39 (by decide) (by decide) rfl (by decide) ?_
      exact LC_isOpen hG h hF hn h5 hL2 k1 k2 next
    · refine G_tableIn (pc := 39) (off := 1009) (tgt := 1048) dL_law_39 (by decide) (by decide) rfl (by decide) ?_
      exact LC_renter hG h hF hn h5 hL2 k1 k2 next
    · refine G_tableIn (pc := 39) (off := 1065) (tgt := 1104) dL_law_39 (by decide) (by decide) rfl (by decide) ?_
      exact LC_clock hG h hF hn h5 hL2 k1 k2 next
    · refine G_tableIn (pc := 39) (off := 1121) (tgt := 1160) dL_law_39 (by decide) (by decide) rfl (by decide) ?_
      exact LC_frameOn hG h hF hn h5 hL2 k1 k2 next
    · refine G_tableIn (pc := 39) (off := 1177) (tgt := 1216) dL_law_39 (by decide) (by decide) rfl (by decide) ?_
      exact LC_owes hG h hF hn h5 hL2 k1 k2 next
    · refine G_tableIn (pc := 39) (off := 1233) (tgt := 1272) dL_law_39 (by decide) (by decide) rfl (by decide) ?_
      exact LC_owesAnew hG h hF hn h5 hL2 k1 k2 next
    · refine G_tableIn (pc := 39) (off := 1289) (tgt := 1328) dL_law_39 (by decide) (by decide) rfl (by decide) ?_
      exact LC_frames hG h hF hn h5 hL2 k1 k2 next
    · refine G_tableIn (pc := 39) (off := 1302) (tgt := 1341) dL_law_39 (by decide) (by decide) rfl (by decide) ?_
      exact LC_state hG h hF hn h5 hL2 k1 k2 next
    · refine G_tableIn (pc := 39) (off := 1358) (tgt := 1397) dL_law_39 (by decide) (by decide) rfl (by decide) ?_
      exact LC_cell hG h hF hn h5 hL2 k1 k2 next
    · refine G_tableIn (pc := 39) (off := 1426) (tgt := 1465) dL_law_39 (by decide) (by decide) rfl (by decide) ?_
      exact LC_ballOn hG h hF hn h5 hL2 k1 k2 next
    · refine G_tableIn (pc := 39) (off := 1482) (tgt := 1521) dL_law_39 (by decide) (by decide) rfl (by decide) ?_
      exact LC_isFree hG h hF hn h5 hL2 k1 k2 next
    · refine G_tableIn (pc := 39) (off := 1545) (tgt := 1584) dL_law_39 (by decide) (by decide) rfl (by decide) ?_
      exact LC_turn hG h hF hn h5 hL2 k1 k2 next
    · refine G_tableIn (pc := 39) (off := 1601) (tgt := 1640) dL_law_39 (by decide) (by decide) rfl (by decide) ?_
      by_cases hb : (gt Γ 4).2.2 (5 * n + 2) = 0
      · exact LC_points0 hG h hF hn h5 hL2 k1 k2 hb next
      · exact LC_points1 hG h hF hn h5 hL2 k1 k2 hb next
    · refine G_tableIn (pc := 39) (off := 1685) (tgt := 1724) dL_law_39 (by decide) (by decide) rfl (by decide) ?_
      exact LC_winner hG h hF hn h5 hL2 k1 k2 next
    · refine G_tableIn (pc := 39) (off := 1741) (tgt := 1780) dL_law_39 (by decide) (by decide) rfl (by decide) ?_
      exact LC_contacts hG h hF hn h5 hL2 k1 k2 next
    · refine G_tableIn (pc := 39) (off := 1821) (tgt := 1860) dL_law_39 (by decide) (by decide) rfl (by decide) ?_
      exact LC_contactsByPairs hG h hF hn h5 hL2 k1 k2 next
    · refine G_tableIn (pc := 39) (off := 1901) (tgt := 1940) dL_law_39 (by decide) (by decide) rfl (by decide) ?_
      exact LC_wins hG h hF hn h5 hL2 k1 k2 next
    · refine G_tableIn (pc := 39) (off := 1957) (tgt := 1996) dL_law_39 (by decide) (by decide) rfl (by decide) ?_
      exact LC_rank hG h hF hn h5 hL2 k1 k2 next
    · refine G_tableIn (pc := 39) (off := 2013) (tgt := 2052) dL_law_39 (by decide) (by decide) rfl (by decide) ?_
      exact LC_wear hG h hF hn h5 hL2 k1 k2 next
    · refine G_tableIn (pc := 39) (off := 2069) (tgt := 2108) dL_law_39 (by decide) (by decide) rfl (by decide) ?_
      exact LC_cueOf hG h hF hn h5 hL2 k1 k2 next
    · refine G_tableIn (pc := 39) (off := 2125) (tgt := 2164) dL_law_39 (by decide) (by decide) rfl (by decide) ?_
      exact LC_force hG h hF hn h5 hL2 k1 k2 next
  · refine G_tableOut (pc := 39) (tgt := 2232) dL_law_39 (Or.inr ?_) (by decide) ?_
    · rw [nI_toInt (by omega)]; omega
    · exact next k Z F (Nat.le_add_right _ _) (Nat.le_add_right _ _) ⟨g, A, h.step hn⟩ hF
theorem law_loop {Γ : GTy} (hG : GS Γ) {W : WTy} (hL2 : (gt Γ 4).2.1 ≤ 2560) (fin : ∀ (k : Nat × Nat) (L : List (Option Value)) (Y : HS), k.1 ≤ 20000 → k.2 ≤ 200000 → G Γ M_L_law room_1 W k 2238 L [] Y) : ∀ (m n : Nat) (k : Nat × Nat) (Z : HS) (F A : FT) (g : GN), CI n Z F g A → rF Z = F → m + n = 512 → k.1 ≤ 200 + 12 * n → k.2 ≤ 4000 + 100 * n → G Γ M_L_law room_1 W k 23 [some (.ref (sid 4)), some (.ref 800000), some (.ref 900000), some (.ref 1990000), some (.int (nI (5 * n))), none, none] [] Z := by
  have head : ∀ (n : Nat) (k : Nat × Nat) (Z : HS), n ≤ 512 → k.1 ≤ 200 + 12 * n → k.2 ≤ 4000 + 100 * n → (5 * n + 5 ≤ (gt Γ 4).2.1 → G Γ M_L_law room_1 W k 32 [some (.ref (sid 4)), some (.ref 800000), some (.ref 900000), some (.ref 1990000), some (.int (nI (5 * n))), none, none] [] Z) → G Γ M_L_law room_1 W k 23 [some (.ref (sid 4)), some (.ref 800000), some (.ref 900000), some (.ref 1990000), some (.int (nI (5 * n))), none, none] [] Z := by
    intro n k Z hn h1 h2 kk
    refine G_iload (pc := 23) dL_law_23 rfl ?_
    refine G_aload_n (pc := 25) dL_law_25 rfl ?_
    refine G_slen (pc := 26) (i := 4) (by decide) rfl dL_law_26 ?_
    refine G_iconst (pc := 27) (v := nI 5) dL_law_27 (by first | rfl | decide) ?_
    refine G_isub (pc := 28) dL_law_28 ?_
    refine G_icmp_gt (pc := 29) (tgt := 2238) dL_law_29 (by decide) (fun _ => ?_) (fun c => ?_)
    · exact fin k _ Z (by omega) (by omega)
    · exact kk (cmp5 (by omega) (by omega) c)
  intro m
  induction m with
  | zero =>
    intro n k Z F A g h hF hm h1 h2
    exact head n k Z (by omega) h1 h2 (fun q => by omega)
  | succ m ih =>
    intro n k Z F A g h hF hm h1 h2
    refine head n k Z (by omega) h1 h2 (fun h5 => ?_)
    refine law_at hG h hF (by omega) h5 hL2 (by omega) (by omega) ?_
    intro k' Z' F' a b ⟨g', A', h'⟩ hF'
    refine G_iinc (pc := 2232) (v := nI (5 * (n + 1))) dL_law_2232 rfl ?_ (by decide) ?_
    · show nI (5 * n) + nI 5 = nI (5 * n + 5)
      exact nI_add _ _
    · refine G_goto (pc := 2235) (tgt := 23) dL_law_2235 (by decide) ?_
      exact ih (n + 1) k' Z' F' A' g' h' hF' (by omega) (by omega) (by omega)
theorem law_from {Γ : GTy} (hG : GS Γ) {W : WTy} (hL2 : (gt Γ 4).2.1 ≤ 2560) (fin : ∀ (k : Nat × Nat) (L : List (Option Value)) (Y : HS), k.1 ≤ 20000 → k.2 ≤ 200000 → G Γ M_L_law room_1 W k 2238 L [] Y) : G Γ M_L_law room_1 W (0, 0) 0 [some (.ref (sid 4)), none, none, none, none, none, none] [] U0 := by
  refine G_new (pc := 0) (c := 8) 800000 rfl rfl (by decide) ⟨by decide, by decide⟩ (by decide) cl_L_8 wN_8.1 wN_8.2 ⟨by decide, by decide⟩ dL_law_0 ?_
  show G _ _ _ _ _ _ _ _ hS_0
  refine G_dup (pc := 3) dL_law_3 rfl ?_
  refine K_LI (pc := 4) (as := []) (rest := [.ref 800000]) (k' := (41, 2216)) mok_X9_init lk_L_117 rfl rfl rfl (fun _ => ⟨rfl, fun r hr => Or.inr ⟨4, by decide, List.mem_singleton.mp hr⟩, fun r hr => by rw [List.mem_singleton.mp hr]; decide +kernel⟩) dL_law_4 C_hallInit rfl ?_
  refine G_astore_n (pc := 7) dL_law_7 (by decide) ?_
  refine G_new (pc := 8) (c := 9) 900000 rfl (by decide +kernel) (by decide) ⟨by decide, by decide⟩ (by decide) cl_L_118 wN_9.1 wN_9.2 ⟨by decide, by decide⟩ dL_law_8 ?_
  show G _ _ _ _ _ _ _ _ hT
  refine G_dup (pc := 11) dL_law_11 rfl ?_
  refine K_LI (pc := 12) (as := []) (rest := [.ref 900000]) (k' := (72, 2942)) mok_X10_init lk_L_120 rfl rfl rfl (fun _ => ⟨rfl, fun r hr => ?_, fun r hr => by rw [List.mem_singleton.mp hr]; decide +kernel⟩) dL_law_12 (C_modelInit (by decide +kernel) h99_T) rfl ?_
  · have hr : r ∈ [sid 4, 800000] := hr
    simp only [List.mem_cons, List.not_mem_nil, or_false] at hr
    rcases hr with rfl | rfl
    · exact Or.inr ⟨4, by decide, rfl⟩
    · exact Or.inl (by decide +kernel)
  refine G_astore_n (pc := 15) dL_law_15 (by decide) ?_
  refine G_iconst (pc := 16) (v := nI 1) dL_law_16 (by first | rfl | decide) ?_
  refine G_newJ (pc := 17) (N := 1) 1990000 rfl (by decide +kernel) (by decide) ⟨by decide, by decide⟩ wA_long rfl (by decide) ⟨by decide, by decide⟩ dL_law_17 ?_
  show G _ _ _ _ _ _ _ _ hV
  refine G_astore_n (pc := 19) dL_law_19 (by decide) ?_
  refine G_iconst (pc := 20) (v := nI 0) dL_law_20 (by first | rfl | decide) ?_
  refine G_istore (pc := 21) dL_law_21 (by decide) ?_
  exact law_loop hG hL2 fin 512 0 _ hV F0m _ g0m CI_0 rF_hV rfl (by decide) (by decide)
