-- ===== the class: the hall: what the calls ask of their arguments =====
theorem sh_k {Z : HS} (h : SH Z) : xK Z 800000 = 8 := h.1.1
theorem sh_r0 {Z : HS} (h : SH Z) : xR Z 8 0 800000 = some 1800000 := (h.1.2.1 0 (by decide)).1
theorem sh_c0 {Z : HS} (h : SH Z) : xK Z 1800000 = 17 := (h.1.2.1 0 (by decide)).2.1
theorem sh_n0 {Z : HS} (h : SH Z) : xn Z 1800000 = 4 := (h.1.2.1 0 (by decide)).2.2
theorem sh_r1 {Z : HS} (h : SH Z) : xR Z 8 1 800000 = some 1800001 := (h.1.2.1 1 (by decide)).1
theorem sh_c1 {Z : HS} (h : SH Z) : xK Z 1800001 = 12 := (h.1.2.1 1 (by decide)).2.1
theorem sh_n1 {Z : HS} (h : SH Z) : xn Z 1800001 = 6 := (h.1.2.1 1 (by decide)).2.2
theorem sh_r2 {Z : HS} (h : SH Z) : xR Z 8 2 800000 = some 1800002 := (h.1.2.1 2 (by decide)).1
theorem sh_c2 {Z : HS} (h : SH Z) : xK Z 1800002 = 13 := (h.1.2.1 2 (by decide)).2.1
theorem sh_n2 {Z : HS} (h : SH Z) : xn Z 1800002 = 20 := (h.1.2.1 2 (by decide)).2.2
theorem sh_r3 {Z : HS} (h : SH Z) : xR Z 8 3 800000 = some 1800003 := (h.1.2.1 3 (by decide)).1
theorem sh_c3 {Z : HS} (h : SH Z) : xK Z 1800003 = 15 := (h.1.2.1 3 (by decide)).2.1
theorem sh_n3 {Z : HS} (h : SH Z) : xn Z 1800003 = 512 := (h.1.2.1 3 (by decide)).2.2
theorem sh_r4 {Z : HS} (h : SH Z) : xR Z 8 4 800000 = some 1800004 := (h.1.2.1 4 (by decide)).1
theorem sh_c4 {Z : HS} (h : SH Z) : xK Z 1800004 = 16 := (h.1.2.1 4 (by decide)).2.1
theorem sh_n4 {Z : HS} (h : SH Z) : xn Z 1800004 = 512 := (h.1.2.1 4 (by decide)).2.2
theorem sh_r5 {Z : HS} (h : SH Z) : xR Z 8 5 800000 = some 1800005 := (h.1.2.1 5 (by decide)).1
theorem sh_c5 {Z : HS} (h : SH Z) : xK Z 1800005 = 14 := (h.1.2.1 5 (by decide)).2.1
theorem sh_n5 {Z : HS} (h : SH Z) : xn Z 1800005 = 512 := (h.1.2.1 5 (by decide)).2.2
theorem sh_r6 {Z : HS} (h : SH Z) : xR Z 8 6 800000 = some 1800006 := (h.1.2.1 6 (by decide)).1
theorem sh_c6 {Z : HS} (h : SH Z) : xK Z 1800006 = 10 := (h.1.2.1 6 (by decide)).2.1
theorem sh_n6 {Z : HS} (h : SH Z) : xn Z 1800006 = 8 := (h.1.2.1 6 (by decide)).2.2
theorem sh_r7 {Z : HS} (h : SH Z) : xR Z 8 7 800000 = some 1800007 := (h.1.2.1 7 (by decide)).1
theorem sh_c7 {Z : HS} (h : SH Z) : xK Z 1800007 = 10 := (h.1.2.1 7 (by decide)).2.1
theorem sh_n7 {Z : HS} (h : SH Z) : xn Z 1800007 = 8 := (h.1.2.1 7 (by decide)).2.2
theorem sh_r8 {Z : HS} (h : SH Z) : xR Z 8 8 800000 = some 10 := h.1.2.2.1
theorem sh_r9 {Z : HS} (h : SH Z) : xR Z 8 9 800000 = some 400010 := h.1.2.2.2
theorem sh_c8 {Z : HS} (h : SH Z) : xK Z 10 = 0 := h.2.1.1.1
theorem sh_c9 {Z : HS} (h : SH Z) : xK Z 400010 = 4 := h.2.1.2.1
def noV : Option Value → HS → Prop := fun _ _ => False
def noX : String → HS → Prop := fun _ _ => False
def XQ (E : String) (Z : HS) : String → HS → Prop := fun E' Z' => E' = E ∧ Z' = Z
theorem in_nat {x : Int32} {m : Nat} (hm : m < 2 ^ 31) (h : nI 0 ≤ x ∧ x ≤ nI m) : ∃ t, t < m + 1 ∧ x = nI t := by
  obtain ⟨j, hj, rfl⟩ := nI_of (Int32.not_lt.mpr h.1)
  exact ⟨j, by have := (nI_leI hj hm).mp h.2; omega, rfl⟩
theorem in_of {x : Int32} {m : Nat} (hm : m + 1 < 2 ^ 31) (h1 : ¬ x < 0) (h2 : ¬ nI (m + 1) ≤ x) : nI 0 ≤ x ∧ x ≤ nI m := by
  obtain ⟨j, hj, rfl⟩ := nI_of h1
  rw [nI_leI hm hj] at h2
  exact ⟨nI_le (Nat.zero_le _) hj, nI_le (by omega) (by omega)⟩
theorem in_ofn {x : Int32} {n : Nat} (hn : n < 1000) (h1 : ¬ x < 0) (h2 : ¬ nI n ≤ x) : nI 0 ≤ x ∧ x ≤ nI n - nI 1 := by
  obtain ⟨j, hj, rfl⟩ := nI_of h1
  rw [nI_leI (by omega) hj] at h2
  rw [pk_sub (by omega)]
  exact ⟨nI_le (Nat.zero_le _) hj, nI_le (by omega) (by omega)⟩
theorem in_natn {x : Int32} {n : Nat} (hn : n < 1000) (h : nI 0 ≤ x ∧ x ≤ nI n - nI 1) : ∃ t, t < n ∧ x = nI t := by
  obtain ⟨j, hj, rfl⟩ := nI_of (Int32.not_lt.mpr h.1)
  rcases Nat.eq_zero_or_pos n with rfl | hp
  · exfalso
    have h2 : nI j < 0 := Int32.lt_of_le_of_lt h.2 (by decide)
    exact nI_pos hj h2
  · rw [pk_sub (by omega)] at h
    have := (nI_leI hj (by omega)).mp h.2
    exact ⟨j, by omega, rfl⟩
theorem clip_lt (x : Int32) : (if nI 1 < x then x else nI 1) = clip1 x := by
  unfold clip1
  by_cases e : nI 1 < x
  · rw [if_pos e, if_pos (Int32.le_of_lt e)]
  · rw [if_neg e]
    by_cases g : nI 1 ≤ x
    · rw [if_pos g]
      exact Int32.le_antisymm g (Int32.not_lt.mp e)
    · rw [if_neg g]
theorem C_rangeN {Γ : GTy} {Z : HS} {x lo hi : Int32} (hx : lo ≤ x ∧ x ≤ hi) : Tn Γ M_X9_requireRange [.int x, .int lo, .int hi] Z (rt none Z) := by
  refine Tn_of' rfl rfl rfl ?_
  show G Γ M_X9_requireRange (rm M_X9_requireRange) (Vn Γ M_X9_requireRange (rt none Z)) (0, 0) 0 [some (.int x), some (.int lo), some (.int hi)] [] Z
  refine G_iload_n (pc := 0) dX9_requireRange_0 rfl ?_
  refine G_iload_n (pc := 1) dX9_requireRange_1 rfl ?_
  refine G_icmp_lt (pc := 2) (tgt := 10) dX9_requireRange_2 (by decide) (fun c2 => ?_) (fun c2 => ?_)
  · exact absurd c2 (Int32.not_lt.mpr hx.1)
  · skip
    refine G_iload_n (pc := 5) dX9_requireRange_5 rfl ?_
    refine G_iload_n (pc := 6) dX9_requireRange_6 rfl ?_
    refine G_icmp_le (pc := 7) (tgt := 21) dX9_requireRange_7 (by decide) (fun c7 => ?_) (fun c7 => ?_)
    · skip
      refine G_vret (pc := 21) VZ.n dX9_requireRange_21 rfl ⟨by decide, by decide⟩ ?_
      exact ⟨rfl, rfl⟩
    · exact absurd hx.2 c7
theorem C_rangeX {Γ : GTy} {Z : HS} {x lo hi : Int32} (hx : ¬ (lo ≤ x ∧ x ≤ hi)) : Tt Γ M_X9_requireRange [.int x, .int lo, .int hi] Z noV (XQ xIA Z) := by
  refine Tt_of' rfl rfl rfl ?_
  show G Γ M_X9_requireRange (rm M_X9_requireRange) (Vt Γ M_X9_requireRange noV (XQ xIA Z)) (0, 0) 0 [some (.int x), some (.int lo), some (.int hi)] [] Z
  refine G_iload_n (pc := 0) dX9_requireRange_0 rfl ?_
  refine G_iload_n (pc := 1) dX9_requireRange_1 rfl ?_
  refine G_icmp_lt (pc := 2) (tgt := 10) dX9_requireRange_2 (by decide) (fun c2 => ?_) (fun c2 => ?_)
  · skip
    refine G_throwW (pc := 10)  tw_X9_295 rfl dX9_requireRange_10 dX9_requireRange_13 dX9_requireRange_14 dX9_requireRange_17 dX9_requireRange_20 ⟨by decide, Nat.le_of_ble_eq_true rfl, by decide, by decide⟩ ⟨by decide, by decide⟩ ?_
    exact ⟨rfl, rfl⟩
  · skip
    refine G_iload_n (pc := 5) dX9_requireRange_5 rfl ?_
    refine G_iload_n (pc := 6) dX9_requireRange_6 rfl ?_
    refine G_icmp_le (pc := 7) (tgt := 21) dX9_requireRange_7 (by decide) (fun c7 => ?_) (fun c7 => ?_)
    · exact absurd ⟨Int32.not_lt.mp c2, c7⟩ hx
    · skip
      refine G_throwW (pc := 10)  tw_X9_295 rfl dX9_requireRange_10 dX9_requireRange_13 dX9_requireRange_14 dX9_requireRange_17 dX9_requireRange_20 ⟨by decide, Nat.le_of_ble_eq_true rfl, by decide, by decide⟩ ⟨by decide, by decide⟩ ?_
      exact ⟨rfl, rfl⟩
theorem C_custN {Γ : GTy} {Z : HS} {c : Nat} (hc : c < 8) : Tn Γ M_X9_requireCustomer [.int (nI c)] Z (rt none Z) := by
  refine Tn_of' rfl rfl rfl ?_
  show G Γ M_X9_requireCustomer (rm M_X9_requireCustomer) (Vn Γ M_X9_requireCustomer (rt none Z)) (0, 0) 0 [some (.int (nI c))] [] Z
  refine G_iload_n (pc := 0) dX9_requireCustomer_0 rfl ?_
  refine G_if_ltN (pc := 1) (tgt := 10) (by omega) dX9_requireCustomer_1 (by decide) (fun c1 => ?_) (fun c1 => ?_)
  · omega
  · skip
    refine G_iload_n (pc := 4) dX9_requireCustomer_4 rfl ?_
    refine G_bipush (pc := 5) (v := nI 8) dX9_requireCustomer_5 (by first | rfl | decide) ?_
    refine G_icmp_ltN (pc := 7) (tgt := 21) (by omega) (by omega) dX9_requireCustomer_7 (by decide) (fun c7 => ?_) (fun c7 => ?_)
    · skip
      refine G_vret (pc := 21) VZ.n dX9_requireCustomer_21 rfl ⟨by decide, by decide⟩ ?_
      exact ⟨rfl, rfl⟩
    · omega
theorem C_custX {Γ : GTy} {Z : HS} {x : Int32} (hx : ¬ (nI 0 ≤ x ∧ x ≤ nI 7)) : Tt Γ M_X9_requireCustomer [.int x] Z noV (XQ xIO Z) := by
  refine Tt_of' rfl rfl rfl ?_
  show G Γ M_X9_requireCustomer (rm M_X9_requireCustomer) (Vt Γ M_X9_requireCustomer noV (XQ xIO Z)) (0, 0) 0 [some (.int x)] [] Z
  refine G_iload_n (pc := 0) dX9_requireCustomer_0 rfl ?_
  refine G_if_lt (pc := 1) (tgt := 10) dX9_requireCustomer_1 (by decide) (fun c1 => ?_) (fun c1 => ?_)
  · skip
    refine G_throwW (pc := 10)  tw_X9_297 rfl dX9_requireCustomer_10 dX9_requireCustomer_13 dX9_requireCustomer_14 dX9_requireCustomer_17 dX9_requireCustomer_20 ⟨by decide, Nat.le_of_ble_eq_true rfl, by decide, by decide⟩ ⟨by decide, by decide⟩ ?_
    exact ⟨rfl, rfl⟩
  · skip
    refine G_iload_n (pc := 4) dX9_requireCustomer_4 rfl ?_
    refine G_bipush (pc := 5) (v := nI 8) dX9_requireCustomer_5 (by first | rfl | decide) ?_
    refine G_icmp_lt (pc := 7) (tgt := 21) dX9_requireCustomer_7 (by decide) (fun c7 => ?_) (fun c7 => ?_)
    · exact absurd (in_of (by decide) c1 (Int32.not_le.mpr c7)) hx
    · skip
      refine G_throwW (pc := 10)  tw_X9_297 rfl dX9_requireCustomer_10 dX9_requireCustomer_13 dX9_requireCustomer_14 dX9_requireCustomer_17 dX9_requireCustomer_20 ⟨by decide, Nat.le_of_ble_eq_true rfl, by decide, by decide⟩ ⟨by decide, by decide⟩ ?_
      exact ⟨rfl, rfl⟩
theorem C_tableAtN {Γ : GTy} {Z : HS} (hH : SH Z) {t : Nat} (ht : t < 4) : Tn Γ M_X9_tableAt [.ref 800000, .int (nI t)] Z (rt (some (.ref (700000 + t))) Z) := by
  refine Tn_of' rfl rfl rfl ?_
  show G Γ M_X9_tableAt (rm M_X9_tableAt) (Vn Γ M_X9_tableAt (rt (some (.ref (700000 + t))) Z)) (0, 0) 0 [some (.ref 800000), some (.int (nI t)), none] [] Z
  refine G_iload_n (pc := 0) dX9_tableAt_0 rfl ?_
  refine G_if_ltN (pc := 1) (tgt := 22) (by omega) dX9_tableAt_1 (by decide) (fun c1 => ?_) (fun c1 => ?_)
  · omega
  · skip
    refine G_iload_n (pc := 4) dX9_tableAt_4 rfl ?_
    refine G_aload_n (pc := 5) dX9_tableAt_5 rfl ?_
    refine G_getS (pc := 6) fl_X9_11 (sh_k hH) rfl (sh_r0 hH) dX9_tableAt_6 ?_
    refine G_alen (pc := 9) (v := nI 4) (sh_c0 hH) (by decide) (congrArg nI (sh_n0 hH)) dX9_tableAt_9 ?_
    refine G_icmp_geN (pc := 10) (tgt := 22) (by omega) (by omega) dX9_tableAt_10 (by decide) (fun c10 => ?_) (fun c10 => ?_)
    · omega
    · skip
      refine G_aload_n (pc := 13) dX9_tableAt_13 rfl ?_
      refine G_getS (pc := 14) fl_X9_11 (sh_k hH) rfl (sh_r0 hH) dX9_tableAt_14 ?_
      refine G_iload_n (pc := 17) dX9_tableAt_17 rfl ?_
      refine G_aaldS (pc := 18) (j := t) (sh_c0 hH) (by decide) rfl (Nat.lt_of_lt_of_eq ht (sh_n0 hH).symm) (by omega) (hH.2.2.1 t ht).2 dX9_tableAt_18 ?_
      refine G_goto (pc := 19) (tgt := 23) dX9_tableAt_19 (by decide) ?_
      refine G_astore_n (pc := 23) dX9_tableAt_23 (by decide) ?_
      refine G_aload_n (pc := 24) dX9_tableAt_24 rfl ?_
      refine G_ifnonnull_r (pc := 25) (tgt := 39) dX9_tableAt_25 (by decide) ?_
      refine G_aload_n (pc := 39) dX9_tableAt_39 rfl ?_
      refine G_aret (pc := 40) VZ.n dX9_tableAt_40 rfl (Or.inr ⟨_, rfl⟩) ⟨by decide, by decide⟩ ?_
      exact ⟨rfl, rfl⟩
theorem C_tableAtX {Γ : GTy} {Z : HS} (hH : SH Z) {x : Int32} (hx : ¬ (nI 0 ≤ x ∧ x ≤ nI 3)) : Tt Γ M_X9_tableAt [.ref 800000, .int x] Z noV (XQ xIO Z) := by
  refine Tt_of' rfl rfl rfl ?_
  show G Γ M_X9_tableAt (rm M_X9_tableAt) (Vt Γ M_X9_tableAt noV (XQ xIO Z)) (0, 0) 0 [some (.ref 800000), some (.int x), none] [] Z
  refine G_iload_n (pc := 0) dX9_tableAt_0 rfl ?_
  refine G_if_lt (pc := 1) (tgt := 22) dX9_tableAt_1 (by decide) (fun c1 => ?_) (fun c1 => ?_)
  · skip
    refine G_null (pc := 22) dX9_tableAt_22 ?_
    refine G_astore_nN (pc := 23) dX9_tableAt_23 (by decide) ?_
    refine G_aload_nN (pc := 24) dX9_tableAt_24 rfl ?_
    refine G_ifnonnull_n (pc := 25) dX9_tableAt_25 ?_
    refine G_throwW (pc := 28)  tw_X9_299 rfl dX9_tableAt_28 dX9_tableAt_31 dX9_tableAt_32 dX9_tableAt_35 dX9_tableAt_38 ⟨by decide, Nat.le_of_ble_eq_true rfl, by decide, by decide⟩ ⟨by decide, by decide⟩ ?_
    exact ⟨rfl, rfl⟩
  · skip
    refine G_iload_n (pc := 4) dX9_tableAt_4 rfl ?_
    refine G_aload_n (pc := 5) dX9_tableAt_5 rfl ?_
    refine G_getS (pc := 6) fl_X9_11 (sh_k hH) rfl (sh_r0 hH) dX9_tableAt_6 ?_
    refine G_alen (pc := 9) (v := nI 4) (sh_c0 hH) (by decide) (congrArg nI (sh_n0 hH)) dX9_tableAt_9 ?_
    refine G_icmp_ge (pc := 10) (tgt := 22) dX9_tableAt_10 (by decide) (fun c10 => ?_) (fun c10 => ?_)
    · skip
      refine G_null (pc := 22) dX9_tableAt_22 ?_
      refine G_astore_nN (pc := 23) dX9_tableAt_23 (by decide) ?_
      refine G_aload_nN (pc := 24) dX9_tableAt_24 rfl ?_
      refine G_ifnonnull_n (pc := 25) dX9_tableAt_25 ?_
      refine G_throwW (pc := 28)  tw_X9_299 rfl dX9_tableAt_28 dX9_tableAt_31 dX9_tableAt_32 dX9_tableAt_35 dX9_tableAt_38 ⟨by decide, Nat.le_of_ble_eq_true rfl, by decide, by decide⟩ ⟨by decide, by decide⟩ ?_
      exact ⟨rfl, rfl⟩
    · exact absurd (in_of (by decide) c1 c10) hx
theorem C_cueAtN {Γ : GTy} {Z : HS} (hH : SH Z) {t : Nat} (ht : t < 6) : Tn Γ M_X9_cueAt [.ref 800000, .int (nI t)] Z (rt (some (.ref (100000 + t))) Z) := by
  refine Tn_of' rfl rfl rfl ?_
  show G Γ M_X9_cueAt (rm M_X9_cueAt) (Vn Γ M_X9_cueAt (rt (some (.ref (100000 + t))) Z)) (0, 0) 0 [some (.ref 800000), some (.int (nI t)), none] [] Z
  refine G_iload_n (pc := 0) dX9_cueAt_0 rfl ?_
  refine G_if_ltN (pc := 1) (tgt := 22) (by omega) dX9_cueAt_1 (by decide) (fun c1 => ?_) (fun c1 => ?_)
  · omega
  · skip
    refine G_iload_n (pc := 4) dX9_cueAt_4 rfl ?_
    refine G_aload_n (pc := 5) dX9_cueAt_5 rfl ?_
    refine G_getS (pc := 6) fl_X9_17 (sh_k hH) rfl (sh_r1 hH) dX9_cueAt_6 ?_
    refine G_alen (pc := 9) (v := nI 6) (sh_c1 hH) (by decide) (congrArg nI (sh_n1 hH)) dX9_cueAt_9 ?_
    refine G_icmp_geN (pc := 10) (tgt := 22) (by omega) (by omega) dX9_cueAt_10 (by decide) (fun c10 => ?_) (fun c10 => ?_)
    · omega
    · skip
      refine G_aload_n (pc := 13) dX9_cueAt_13 rfl ?_
      refine G_getS (pc := 14) fl_X9_17 (sh_k hH) rfl (sh_r1 hH) dX9_cueAt_14 ?_
      refine G_iload_n (pc := 17) dX9_cueAt_17 rfl ?_
      refine G_aaldS (pc := 18) (j := t) (sh_c1 hH) (by decide) rfl (Nat.lt_of_lt_of_eq ht (sh_n1 hH).symm) (by omega) (hH.2.2.2.1 t ht).2 dX9_cueAt_18 ?_
      refine G_goto (pc := 19) (tgt := 23) dX9_cueAt_19 (by decide) ?_
      refine G_astore_n (pc := 23) dX9_cueAt_23 (by decide) ?_
      refine G_aload_n (pc := 24) dX9_cueAt_24 rfl ?_
      refine G_ifnonnull_r (pc := 25) (tgt := 39) dX9_cueAt_25 (by decide) ?_
      refine G_aload_n (pc := 39) dX9_cueAt_39 rfl ?_
      refine G_aret (pc := 40) VZ.n dX9_cueAt_40 rfl (Or.inr ⟨_, rfl⟩) ⟨by decide, by decide⟩ ?_
      exact ⟨rfl, rfl⟩
theorem C_cueAtX {Γ : GTy} {Z : HS} (hH : SH Z) {x : Int32} (hx : ¬ (nI 0 ≤ x ∧ x ≤ nI 5)) : Tt Γ M_X9_cueAt [.ref 800000, .int x] Z noV (XQ xIO Z) := by
  refine Tt_of' rfl rfl rfl ?_
  show G Γ M_X9_cueAt (rm M_X9_cueAt) (Vt Γ M_X9_cueAt noV (XQ xIO Z)) (0, 0) 0 [some (.ref 800000), some (.int x), none] [] Z
  refine G_iload_n (pc := 0) dX9_cueAt_0 rfl ?_
  refine G_if_lt (pc := 1) (tgt := 22) dX9_cueAt_1 (by decide) (fun c1 => ?_) (fun c1 => ?_)
  · skip
    refine G_null (pc := 22) dX9_cueAt_22 ?_
    refine G_astore_nN (pc := 23) dX9_cueAt_23 (by decide) ?_
    refine G_aload_nN (pc := 24) dX9_cueAt_24 rfl ?_
    refine G_ifnonnull_n (pc := 25) dX9_cueAt_25 ?_
    refine G_throwW (pc := 28)  tw_X9_301 rfl dX9_cueAt_28 dX9_cueAt_31 dX9_cueAt_32 dX9_cueAt_35 dX9_cueAt_38 ⟨by decide, Nat.le_of_ble_eq_true rfl, by decide, by decide⟩ ⟨by decide, by decide⟩ ?_
    exact ⟨rfl, rfl⟩
  · skip
    refine G_iload_n (pc := 4) dX9_cueAt_4 rfl ?_
    refine G_aload_n (pc := 5) dX9_cueAt_5 rfl ?_
    refine G_getS (pc := 6) fl_X9_17 (sh_k hH) rfl (sh_r1 hH) dX9_cueAt_6 ?_
    refine G_alen (pc := 9) (v := nI 6) (sh_c1 hH) (by decide) (congrArg nI (sh_n1 hH)) dX9_cueAt_9 ?_
    refine G_icmp_ge (pc := 10) (tgt := 22) dX9_cueAt_10 (by decide) (fun c10 => ?_) (fun c10 => ?_)
    · skip
      refine G_null (pc := 22) dX9_cueAt_22 ?_
      refine G_astore_nN (pc := 23) dX9_cueAt_23 (by decide) ?_
      refine G_aload_nN (pc := 24) dX9_cueAt_24 rfl ?_
      refine G_ifnonnull_n (pc := 25) dX9_cueAt_25 ?_
      refine G_throwW (pc := 28)  tw_X9_301 rfl dX9_cueAt_28 dX9_cueAt_31 dX9_cueAt_32 dX9_cueAt_35 dX9_cueAt_38 ⟨by decide, Nat.le_of_ble_eq_true rfl, by decide, by decide⟩ ⟨by decide, by decide⟩ ?_
      exact ⟨rfl, rfl⟩
    · exact absurd (in_of (by decide) c1 c10) hx
theorem C_frameAtN {Γ : GTy} {Z : HS} (hH : SH Z) {f n : Nat} (hf : f < n) (hn : xI Z 8 10 800000 = nI n) (n20 : n ≤ 20) (hp : xP Z 1800002 f = some (200000 + f)) (hk : xK Z (200000 + f) = 2) : Tn Γ M_X9_frameAt [.ref 800000, .int (nI f)] Z (rt (some (.ref (200000 + f))) Z) := by
  refine Tn_of' rfl rfl rfl ?_
  show G Γ M_X9_frameAt (rm M_X9_frameAt) (Vn Γ M_X9_frameAt (rt (some (.ref (200000 + f))) Z)) (0, 0) 0 [some (.ref 800000), some (.int (nI f)), none] [] Z
  refine G_iload_n (pc := 0) dX9_frameAt_0 rfl ?_
  refine G_if_ltN (pc := 1) (tgt := 30) (by omega) dX9_frameAt_1 (by decide) (fun c1 => ?_) (fun c1 => ?_)
  · omega
  · skip
    refine G_iload_n (pc := 4) dX9_frameAt_4 rfl ?_
    refine G_aload_n (pc := 5) dX9_frameAt_5 rfl ?_
    refine G_getIv (pc := 6) (v := nI n) hn fl_X9_145 (sh_k hH) rfl dX9_frameAt_6 ?_
    refine G_icmp_geN (pc := 9) (tgt := 30) (by omega) (by omega) dX9_frameAt_9 (by decide) (fun c9 => ?_) (fun c9 => ?_)
    · omega
    · skip
      refine G_iload_n (pc := 12) dX9_frameAt_12 rfl ?_
      refine G_aload_n (pc := 13) dX9_frameAt_13 rfl ?_
      refine G_getS (pc := 14) fl_X9_23 (sh_k hH) rfl (sh_r2 hH) dX9_frameAt_14 ?_
      refine G_alen (pc := 17) (v := nI 20) (sh_c2 hH) (by decide) (congrArg nI (sh_n2 hH)) dX9_frameAt_17 ?_
      refine G_icmp_geN (pc := 18) (tgt := 30) (by omega) (by omega) dX9_frameAt_18 (by decide) (fun c18 => ?_) (fun c18 => ?_)
      · omega
      · skip
        refine G_aload_n (pc := 21) dX9_frameAt_21 rfl ?_
        refine G_getS (pc := 22) fl_X9_23 (sh_k hH) rfl (sh_r2 hH) dX9_frameAt_22 ?_
        refine G_iload_n (pc := 25) dX9_frameAt_25 rfl ?_
        refine G_aaldS (pc := 26) (j := f) (sh_c2 hH) (by decide) rfl (Nat.lt_of_lt_of_eq (show f < 20 by omega) (sh_n2 hH).symm) (by omega) hp dX9_frameAt_26 ?_
        refine G_goto (pc := 27) (tgt := 31) dX9_frameAt_27 (by decide) ?_
        refine G_astore_n (pc := 31) dX9_frameAt_31 (by decide) ?_
        refine G_aload_n (pc := 32) dX9_frameAt_32 rfl ?_
        refine G_ifnonnull_r (pc := 33) (tgt := 47) dX9_frameAt_33 (by decide) ?_
        refine G_aload_n (pc := 47) dX9_frameAt_47 rfl ?_
        refine G_aret (pc := 48) VZ.n dX9_frameAt_48 rfl (Or.inr ⟨_, rfl⟩) ⟨by decide, by decide⟩ ?_
        exact ⟨rfl, rfl⟩
theorem C_frameAtX {Γ : GTy} {Z : HS} (hH : SH Z) {x : Int32} {n : Nat} (hn : xI Z 8 10 800000 = nI n) (n20 : n ≤ 20) (hx : ¬ (nI 0 ≤ x ∧ x ≤ nI n - nI 1)) : Tt Γ M_X9_frameAt [.ref 800000, .int x] Z noV (XQ xIO Z) := by
  refine Tt_of' rfl rfl rfl ?_
  show G Γ M_X9_frameAt (rm M_X9_frameAt) (Vt Γ M_X9_frameAt noV (XQ xIO Z)) (0, 0) 0 [some (.ref 800000), some (.int x), none] [] Z
  refine G_iload_n (pc := 0) dX9_frameAt_0 rfl ?_
  refine G_if_lt (pc := 1) (tgt := 30) dX9_frameAt_1 (by decide) (fun c1 => ?_) (fun c1 => ?_)
  · skip
    refine G_null (pc := 30) dX9_frameAt_30 ?_
    refine G_astore_nN (pc := 31) dX9_frameAt_31 (by decide) ?_
    refine G_aload_nN (pc := 32) dX9_frameAt_32 rfl ?_
    refine G_ifnonnull_n (pc := 33) dX9_frameAt_33 ?_
    refine G_throwW (pc := 36)  tw_X9_303 rfl dX9_frameAt_36 dX9_frameAt_39 dX9_frameAt_40 dX9_frameAt_43 dX9_frameAt_46 ⟨by decide, Nat.le_of_ble_eq_true rfl, by decide, by decide⟩ ⟨by decide, by decide⟩ ?_
    exact ⟨rfl, rfl⟩
  · skip
    refine G_iload_n (pc := 4) dX9_frameAt_4 rfl ?_
    refine G_aload_n (pc := 5) dX9_frameAt_5 rfl ?_
    refine G_getIv (pc := 6) (v := nI n) hn fl_X9_145 (sh_k hH) rfl dX9_frameAt_6 ?_
    refine G_icmp_ge (pc := 9) (tgt := 30) dX9_frameAt_9 (by decide) (fun c9 => ?_) (fun c9 => ?_)
    · skip
      refine G_null (pc := 30) dX9_frameAt_30 ?_
      refine G_astore_nN (pc := 31) dX9_frameAt_31 (by decide) ?_
      refine G_aload_nN (pc := 32) dX9_frameAt_32 rfl ?_
      refine G_ifnonnull_n (pc := 33) dX9_frameAt_33 ?_
      refine G_throwW (pc := 36)  tw_X9_303 rfl dX9_frameAt_36 dX9_frameAt_39 dX9_frameAt_40 dX9_frameAt_43 dX9_frameAt_46 ⟨by decide, Nat.le_of_ble_eq_true rfl, by decide, by decide⟩ ⟨by decide, by decide⟩ ?_
      exact ⟨rfl, rfl⟩
    · exact absurd (in_ofn (by omega) c1 c9) hx
theorem C_heldN {Γ : GTy} {Z : HS} {q : Nat} {x : Int32} (hk : xK Z q = 1) (hl : xR Z 1 1 q = none) : Tn Γ M_X1_isHeldBy [.ref q, .int x] Z (rt (some (.int (nI 0))) Z) := by
  refine Tn_of' rfl rfl rfl ?_
  show G Γ M_X1_isHeldBy (rm M_X1_isHeldBy) (Vn Γ M_X1_isHeldBy (rt (some (.int (nI 0))) Z)) (0, 0) 0 [some (.ref q), some (.int x)] [] Z
  refine G_aload_n (pc := 0) dX1_isHeldBy_0 rfl ?_
  refine G_getN (pc := 1) fl_X1_9 hk rfl hl dX1_isHeldBy_1 ?_
  refine G_ifnull_n (pc := 4) (tgt := 22) dX1_isHeldBy_4 (by decide) ?_
  refine G_iconst (pc := 22) (v := nI 0) dX1_isHeldBy_22 (by first | rfl | decide) ?_
  refine G_zret (pc := 23) VZ.n dX1_isHeldBy_23 rfl (Or.inl rfl) ⟨by decide, by decide⟩ ?_
  exact ⟨rfl, rfl⟩
theorem C_heldS {Γ : GTy} {Z : HS} {q l b c : Nat} (hk : xK Z q = 1) (hl : xR Z 1 1 q = some l) (hk3 : xK Z l = 3) (hb : xI Z 3 0 l = nI b) (b1 : b < 100) (c1 : c < 100) : Tn Γ M_X1_isHeldBy [.ref q, .int (nI c)] Z (rt (some (.int (b2 (b = c)))) Z) := by
  refine Tn_of' rfl rfl rfl ?_
  show G Γ M_X1_isHeldBy (rm M_X1_isHeldBy) (Vn Γ M_X1_isHeldBy (rt (some (.int (b2 (b = c)))) Z)) (0, 0) 0 [some (.ref q), some (.int (nI c))] [] Z
  refine G_aload_n (pc := 0) dX1_isHeldBy_0 rfl ?_
  refine G_getS (pc := 1) fl_X1_9 hk rfl hl dX1_isHeldBy_1 ?_
  refine G_ifnull_r (pc := 4) dX1_isHeldBy_4 ?_
  refine G_aload_n (pc := 7) dX1_isHeldBy_7 rfl ?_
  refine G_getS (pc := 8) fl_X1_9 hk rfl hl dX1_isHeldBy_8 ?_
  refine G_getIv (pc := 11) (v := nI b) hb fl_X1_15 hk3 rfl dX1_isHeldBy_11 ?_
  refine G_iload_n (pc := 14) dX1_isHeldBy_14 rfl ?_
  refine G_icmp_neN (pc := 15) (tgt := 22) (by omega) (by omega) dX1_isHeldBy_15 (by decide) (fun c15 => ?_) (fun c15 => ?_)
  · skip
    have e9 := b2_f (p := b = c) c15
    refine G_iconst (pc := 22) (v := nI 0) dX1_isHeldBy_22 (by first | rfl | decide) ?_
    refine G_zret (pc := 23) VZ.n dX1_isHeldBy_23 rfl (Or.inl rfl) ⟨by decide, by decide⟩ ?_
    exact ⟨congrArg (fun z => some (Value.int z)) e9.symm, rfl⟩
  · skip
    have e9 := b2_t (p := b = c) c15
    refine G_iconst (pc := 18) (v := nI 1) dX1_isHeldBy_18 (by first | rfl | decide) ?_
    refine G_goto (pc := 19) (tgt := 23) dX1_isHeldBy_19 (by decide) ?_
    refine G_zret (pc := 23) VZ.n dX1_isHeldBy_23 rfl (Or.inr rfl) ⟨by decide, by decide⟩ ?_
    exact ⟨congrArg (fun z => some (Value.int z)) e9.symm, rfl⟩
theorem C_held {Γ : GTy} {n : Nat} {Z : HS} {F A : FT} {g : GN} (h : CI n Z F g A) {u c : Nat} (hu : u < 6) (hc : c < 8) : Tn Γ M_X1_isHeldBy [.ref (100000 + u), .int (nI c)] Z (rt (some (.int (b2 (F 107 u = nI (c + 1))))) Z) := by
  obtain ⟨q1, ⟨q2, q3, q4⟩, -, ⟨-, q9, -⟩, ⟨-, -, q13⟩, -, -⟩ := h
  have hk := (q1.2.2.2.1 u hu).1
  have e := (q2.2.2.1 u hu).1
  by_cases z : g 4 u = 0
  · have h9 := C_heldN (Γ := Γ) (x := nI c) hk ((q9 u hu).2.1 z)
    rw [b2_f (by rw [e.1, z]; exact fun w => by have := (nI_eq (by omega) (by omega)).mp w; omega)]
    exact h9
  · obtain ⟨l1, l2⟩ := q3.2.2.2.2 u hu z
    obtain ⟨k3, -, b3, -⟩ := q13 _ l1
    have h9 := C_heldS (Γ := Γ) (c := c) hk ((q9 u hu).2.2 z).1 k3 b3.1 (by omega) (by omega)
    rw [b2_eq (q := F 107 u = nI (c + 1)) (by rw [e.1, nI_eq (by omega) (by omega)]; omega)] at h9
    exact h9
theorem cue_u {F : FT} {g : GN} (h : PI F g) {i j c : Nat} (hi : i < 6) (hj : j < 6) (e1 : F 107 i = nI (c + 1)) (e2 : F 107 j = nI (c + 1)) (hc : c < 8) : i = j := by
  obtain ⟨-, -, h3, h4, -⟩ := h
  have a := (h3 i hi).1
  have b := (h3 j hj).1
  rw [a.1, nI_eq (by omega) (by omega)] at e1
  rw [b.1, nI_eq (by omega) (by omega)] at e2
  exact h4 i j hi hj (by omega) (by omega)
theorem lastW_no {p : Nat → Prop} [DecidablePred p] {n k : Nat} (h : lastW p n = -1) (hk : k < n) (hn : n < 100 := by decide) : ¬ p k := by
  rcases lastW_spec p n with ⟨-, h2⟩ | ⟨j, h1, -, h3, -⟩
  · exact h2 k hk
  · exact absurd (h3.symm.trans h) (nI_nm1 (by omega))
theorem lastW_yes {p : Nat → Prop} [DecidablePred p] {n : Nat} (h : ¬ lastW p n = -1) : ∃ j, j < n ∧ p j ∧ lastW p n = nI j := by
  rcases lastW_spec p n with ⟨h1, -⟩ | ⟨j, h1, h2, h3, -⟩
  · exact absurd h1 h
  · exact ⟨j, h1, h2, h3⟩
theorem C_cueHeldN {Γ : GTy} {Z : HS} {n : Nat} {F A : FT} {g : GN} (h : CI n Z F g A) {c : Nat} (hc : c < 8) (he : lastW (fun k => F 107 k = nI (c + 1)) 6 = -1) : Tn Γ M_X9_cueHeldBy [.ref 800000, .int (nI c)] Z (rt (some .null) Z) := by
  refine Tn_of' rfl rfl rfl ?_
  show G Γ M_X9_cueHeldBy (rm M_X9_cueHeldBy) (Vn Γ M_X9_cueHeldBy (rt (some .null) Z)) (0, 0) 0 [some (.ref 800000), some (.int (nI c)), none, none, none, none] [] Z
  have loop : ∀ (n9 j : Nat) (v5 : Option Value), j + n9 = 6 → (∀ i, i < j → ¬ F 107 i = nI (c + 1)) → G Γ M_X9_cueHeldBy (rm M_X9_cueHeldBy) (Vn Γ M_X9_cueHeldBy (rt (some .null) Z)) (0, 0) 11 [some (.ref 800000), some (.int (nI c)), some (.ref 1800001), some (.int (nI 6)), some (.int (nI j)), v5] [] Z := by
    intro n9
    induction n9 with
    | zero =>
      intro j v5 hj hq
      obtain rfl : j = 6 := by omega
      refine G_iload (pc := 11) dX9_cueHeldBy_11 rfl ?_
      refine G_iload_n (pc := 13) dX9_cueHeldBy_13 rfl ?_
      refine G_icmp_geN (pc := 14) (tgt := 46) (by omega) (by omega) dX9_cueHeldBy_14 (by decide) (fun c14 => ?_) (fun c14 => ?_)
      · skip
        refine G_null (pc := 46) dX9_cueHeldBy_46 ?_
        refine G_aret (pc := 47) VZ.n dX9_cueHeldBy_47 rfl (Or.inl rfl) ⟨by decide, by decide⟩ ?_
        exact ⟨rfl, rfl⟩
      · omega
    | succ n9 ih =>
      intro j v5 hj hq
      have hj9 : j < 6 := by omega
      refine G_iload (pc := 11) dX9_cueHeldBy_11 rfl ?_
      refine G_iload_n (pc := 13) dX9_cueHeldBy_13 rfl ?_
      refine G_icmp_geN (pc := 14) (tgt := 46) (by omega) (by omega) dX9_cueHeldBy_14 (by decide) (fun c14 => ?_) (fun c14 => ?_)
      · omega
      · skip
        refine G_aload_n (pc := 17) dX9_cueHeldBy_17 rfl ?_
        refine G_iload (pc := 18) dX9_cueHeldBy_18 rfl ?_
        refine G_aaldS (pc := 20) (j := j) (sh_c1 h.1) (by decide) rfl (Nat.lt_of_lt_of_eq hj9 (sh_n1 h.1).symm) (by omega) (h.1.2.2.2.1 j hj9).2 dX9_cueHeldBy_20 ?_
        refine G_astore (pc := 21) dX9_cueHeldBy_21 (by decide) ?_
        refine G_aload (pc := 23) dX9_cueHeldBy_23 rfl ?_
        refine G_ifnull_r (pc := 25) dX9_cueHeldBy_25 ?_
        refine G_aload (pc := 28) dX9_cueHeldBy_28 rfl ?_
        refine G_iload_n (pc := 30) dX9_cueHeldBy_30 rfl ?_
        refine K_Vn1r (pc := 31) (k' := (0, 0)) mok_X1_isHeldBy lk_X9_292 (h.1.2.2.2.1 j hj9).1 rfl rfl rfl (aok0 rfl) dX9_cueHeldBy_31 (C_held h hj9 hc) rfl ?_
        refine G_if_eqB (pc := 34) (tgt := 40) dX9_cueHeldBy_34 (by decide) (fun c34 => ?_) (fun c34 => ?_)
        · skip
          refine G_iincN (pc := 40) dX9_cueHeldBy_40 rfl (by decide) ?_
          refine G_goto (pc := 43) (tgt := 11) dX9_cueHeldBy_43 (by decide) ?_
          exact ih (j + 1) _ (by omega) (fun i hi => by by_cases e : i = j; (subst e; exact c34); exact hq i (by omega))
        · skip
          refine G_aload (pc := 37) dX9_cueHeldBy_37 rfl ?_
          refine G_aret (pc := 39) VZ.n dX9_cueHeldBy_39 rfl (Or.inr ⟨_, rfl⟩) ⟨by decide, by decide⟩ ?_
          exact absurd c34 (lastW_no he hj9)
  refine G_aload_n (pc := 0) dX9_cueHeldBy_0 rfl ?_
  refine G_getS (pc := 1) fl_X9_17 (sh_k h.1) rfl (sh_r1 h.1) dX9_cueHeldBy_1 ?_
  refine G_astore_n (pc := 4) dX9_cueHeldBy_4 (by decide) ?_
  refine G_aload_n (pc := 5) dX9_cueHeldBy_5 rfl ?_
  refine G_alen (pc := 6) (v := nI 6) (sh_c1 h.1) (by decide) (congrArg nI (sh_n1 h.1)) dX9_cueHeldBy_6 ?_
  refine G_istore_n (pc := 7) dX9_cueHeldBy_7 (by decide) ?_
  refine G_iconst (pc := 8) (v := nI 0) dX9_cueHeldBy_8 (by first | rfl | decide) ?_
  refine G_istore (pc := 9) dX9_cueHeldBy_9 (by decide) ?_
  exact loop 6 0 _ rfl (fun i hi => absurd hi (Nat.not_lt_zero i))
theorem C_cueHeldS {Γ : GTy} {Z : HS} {n : Nat} {F A : FT} {g : GN} (h : CI n Z F g A) {c u : Nat} (hc : c < 8) (hu : u < 6) (he : F 107 u = nI (c + 1)) : Tn Γ M_X9_cueHeldBy [.ref 800000, .int (nI c)] Z (rt (some (.ref (100000 + u))) Z) := by
  refine Tn_of' rfl rfl rfl ?_
  show G Γ M_X9_cueHeldBy (rm M_X9_cueHeldBy) (Vn Γ M_X9_cueHeldBy (rt (some (.ref (100000 + u))) Z)) (0, 0) 0 [some (.ref 800000), some (.int (nI c)), none, none, none, none] [] Z
  have loop : ∀ (n9 j : Nat) (v5 : Option Value), j + n9 = 6 → (∀ i, i < j → ¬ F 107 i = nI (c + 1)) → G Γ M_X9_cueHeldBy (rm M_X9_cueHeldBy) (Vn Γ M_X9_cueHeldBy (rt (some (.ref (100000 + u))) Z)) (0, 0) 11 [some (.ref 800000), some (.int (nI c)), some (.ref 1800001), some (.int (nI 6)), some (.int (nI j)), v5] [] Z := by
    intro n9
    induction n9 with
    | zero =>
      intro j v5 hj hq
      obtain rfl : j = 6 := by omega
      refine G_iload (pc := 11) dX9_cueHeldBy_11 rfl ?_
      refine G_iload_n (pc := 13) dX9_cueHeldBy_13 rfl ?_
      refine G_icmp_geN (pc := 14) (tgt := 46) (by omega) (by omega) dX9_cueHeldBy_14 (by decide) (fun c14 => ?_) (fun c14 => ?_)
      · skip
        refine G_null (pc := 46) dX9_cueHeldBy_46 ?_
        refine G_aret (pc := 47) VZ.n dX9_cueHeldBy_47 rfl (Or.inl rfl) ⟨by decide, by decide⟩ ?_
        exact absurd he (hq u hu)
      · omega
    | succ n9 ih =>
      intro j v5 hj hq
      have hj9 : j < 6 := by omega
      refine G_iload (pc := 11) dX9_cueHeldBy_11 rfl ?_
      refine G_iload_n (pc := 13) dX9_cueHeldBy_13 rfl ?_
      refine G_icmp_geN (pc := 14) (tgt := 46) (by omega) (by omega) dX9_cueHeldBy_14 (by decide) (fun c14 => ?_) (fun c14 => ?_)
      · omega
      · skip
        refine G_aload_n (pc := 17) dX9_cueHeldBy_17 rfl ?_
        refine G_iload (pc := 18) dX9_cueHeldBy_18 rfl ?_
        refine G_aaldS (pc := 20) (j := j) (sh_c1 h.1) (by decide) rfl (Nat.lt_of_lt_of_eq hj9 (sh_n1 h.1).symm) (by omega) (h.1.2.2.2.1 j hj9).2 dX9_cueHeldBy_20 ?_
        refine G_astore (pc := 21) dX9_cueHeldBy_21 (by decide) ?_
        refine G_aload (pc := 23) dX9_cueHeldBy_23 rfl ?_
        refine G_ifnull_r (pc := 25) dX9_cueHeldBy_25 ?_
        refine G_aload (pc := 28) dX9_cueHeldBy_28 rfl ?_
        refine G_iload_n (pc := 30) dX9_cueHeldBy_30 rfl ?_
        refine K_Vn1r (pc := 31) (k' := (0, 0)) mok_X1_isHeldBy lk_X9_292 (h.1.2.2.2.1 j hj9).1 rfl rfl rfl (aok0 rfl) dX9_cueHeldBy_31 (C_held h hj9 hc) rfl ?_
        refine G_if_eqB (pc := 34) (tgt := 40) dX9_cueHeldBy_34 (by decide) (fun c34 => ?_) (fun c34 => ?_)
        · skip
          refine G_iincN (pc := 40) dX9_cueHeldBy_40 rfl (by decide) ?_
          refine G_goto (pc := 43) (tgt := 11) dX9_cueHeldBy_43 (by decide) ?_
          exact ih (j + 1) _ (by omega) (fun i hi => by by_cases e : i = j; (subst e; exact c34); exact hq i (by omega))
        · skip
          refine G_aload (pc := 37) dX9_cueHeldBy_37 rfl ?_
          refine G_aret (pc := 39) VZ.n dX9_cueHeldBy_39 rfl (Or.inr ⟨_, rfl⟩) ⟨by decide, by decide⟩ ?_
          have e9 : j = u := cue_u h.2.1.1 hj9 hu c34 he hc
          subst e9
          exact ⟨rfl, rfl⟩
  refine G_aload_n (pc := 0) dX9_cueHeldBy_0 rfl ?_
  refine G_getS (pc := 1) fl_X9_17 (sh_k h.1) rfl (sh_r1 h.1) dX9_cueHeldBy_1 ?_
  refine G_astore_n (pc := 4) dX9_cueHeldBy_4 (by decide) ?_
  refine G_aload_n (pc := 5) dX9_cueHeldBy_5 rfl ?_
  refine G_alen (pc := 6) (v := nI 6) (sh_c1 h.1) (by decide) (congrArg nI (sh_n1 h.1)) dX9_cueHeldBy_6 ?_
  refine G_istore_n (pc := 7) dX9_cueHeldBy_7 (by decide) ?_
  refine G_iconst (pc := 8) (v := nI 0) dX9_cueHeldBy_8 (by first | rfl | decide) ?_
  refine G_istore (pc := 9) dX9_cueHeldBy_9 (by decide) ?_
  exact loop 6 0 _ rfl (fun i hi => absurd hi (Nat.not_lt_zero i))
theorem C_forceN {Γ : GTy} {Z : HS} (p : Int32) : Tn Γ M_X9_forceWith [.null, .int p] Z (rt (some (.int (clip1 (nI 3 * p / nI 4)))) Z) := by
  refine Tn_of' rfl rfl rfl ?_
  show G Γ M_X9_forceWith (rm M_X9_forceWith) (Vn Γ M_X9_forceWith (rt (some (.int (clip1 (nI 3 * p / nI 4)))) Z)) (0, 0) 0 [some (.null), some (.int p), none] [] Z
  refine G_aload_nN (pc := 0) dX9_forceWith_0 rfl ?_
  refine G_ifnonnull_n (pc := 1) dX9_forceWith_1 ?_
  refine G_iload_n (pc := 4) dX9_forceWith_4 rfl ?_
  refine G_iconst (pc := 5) (v := nI 3) dX9_forceWith_5 (by first | rfl | decide) ?_
  refine G_imul (pc := 6) dX9_forceWith_6 ?_
  refine G_iconst (pc := 7) (v := nI 4) dX9_forceWith_7 (by first | rfl | decide) ?_
  rw [Int32.mul_comm p (nI 3)]
  refine G_idiv (pc := 8) dX9_forceWith_8 (by decide) ?_
  refine G_goto (pc := 9) (tgt := 26) dX9_forceWith_9 (by decide) ?_
  refine G_istore_n (pc := 26) dX9_forceWith_26 (by decide) ?_
  refine G_iconst (pc := 27) (v := nI 1) dX9_forceWith_27 (by first | rfl | decide) ?_
  refine G_iload_n (pc := 28) dX9_forceWith_28 rfl ?_
  refine G_max (pc := 29) lm_X9_348 wmax ⟨by decide, Nat.le_of_ble_eq_true rfl⟩ ⟨by decide, by decide⟩ dX9_forceWith_29 ?_
  rw [clip_lt]
  refine G_iret (pc := 32) VZ.n dX9_forceWith_32 rfl ⟨by decide, by decide⟩ ?_
  exact ⟨rfl, rfl⟩
theorem C_forceS {Γ : GTy} {Z : HS} {u : Nat} (hk : xK Z (100000 + u) = 1) {w : Int32} (hw : xI Z 1 0 (100000 + u) = w) (p : Int32) : Tn Γ M_X9_forceWith [.ref (100000 + u), .int p] Z (rt (some (.int (clip1 (p * (nI 200 - w) / nI 200)))) Z) := by
  refine Tn_of' rfl rfl rfl ?_
  show G Γ M_X9_forceWith (rm M_X9_forceWith) (Vn Γ M_X9_forceWith (rt (some (.int (clip1 (p * (nI 200 - w) / nI 200)))) Z)) (0, 0) 0 [some (.ref (100000 + u)), some (.int p), none] [] Z
  refine G_aload_n (pc := 0) dX9_forceWith_0 rfl ?_
  refine G_ifnonnull_r (pc := 1) (tgt := 12) dX9_forceWith_1 (by decide) ?_
  refine G_iload_n (pc := 12) dX9_forceWith_12 rfl ?_
  refine G_sipush (pc := 13) (v := nI 200) dX9_forceWith_13 (by first | rfl | decide) ?_
  refine G_aload_n (pc := 16) dX9_forceWith_16 rfl ?_
  refine G_getIv (pc := 17) (v := w) hw fl_X9_231 hk rfl dX9_forceWith_17 ?_
  refine G_isub (pc := 20) dX9_forceWith_20 ?_
  refine G_imul (pc := 21) dX9_forceWith_21 ?_
  refine G_sipush (pc := 22) (v := nI 200) dX9_forceWith_22 (by first | rfl | decide) ?_
  refine G_idiv (pc := 25) dX9_forceWith_25 (by decide) ?_
  refine G_istore_n (pc := 26) dX9_forceWith_26 (by decide) ?_
  refine G_iconst (pc := 27) (v := nI 1) dX9_forceWith_27 (by first | rfl | decide) ?_
  refine G_iload_n (pc := 28) dX9_forceWith_28 rfl ?_
  refine G_max (pc := 29) lm_X9_348 wmax ⟨by decide, Nat.le_of_ble_eq_true rfl⟩ ⟨by decide, by decide⟩ dX9_forceWith_29 ?_
  rw [clip_lt]
  refine G_iret (pc := 32) VZ.n dX9_forceWith_32 rfl ⟨by decide, by decide⟩ ?_
  exact ⟨rfl, rfl⟩
