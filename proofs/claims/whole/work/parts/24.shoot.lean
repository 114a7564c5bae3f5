-- ===== the model: meetings, shoot =====
def forceF (F : FT) (c : Nat) (p : Int32) : Int32 := if (lastW (fun k => F 107 k = nI (c + 1)) 6) = -1 then clip1 (nI 3 * p / nI 4) else clip1 (p * (nI 200 - F 108 (lastW (fun k => F 107 k = nI (c + 1)) 6).toNatClampNeg) / nI 200)
theorem C_forceOf {Γ : GTy} {Y : HS} (hS : MS Y) (F : FT) (c : Nat) (p : Int32) : Tn Γ M_X10_forceOf [.ref 900000, .int (nI c), .int p] (wM Y F) (rt (some (.int (forceF F c p))) (wM Y F)) := by
  unfold forceF
  rcases lastW_spec (fun k => F 107 k = nI (c + 1)) 6 with ⟨h1, -⟩ | ⟨j, h1, -, h3, -⟩
  · rw [if_pos h1]
    exact C_forceOf0 hS F h1
  · rw [if_neg (by rw [h3]; exact nI_nm1 (by omega)), h3, nI_clamp (by omega)]
    exact C_forceOf1 hS F h3 h1
abbrev phys (s : Nat) : Prop := s = 119 ∨ s = 120 ∨ s = 121 ∨ s = 22 ∨ s = 23 ∨ s = 24
theorem u2_o {F : FT} {s j s' j' : Nat} {v : Int32} (h : s' ≠ s) : u2 F s j v s' j' = F s' j' := if_neg (fun g => h g.1)
theorem mRolls_o {F : FT} {b c d s j : Nat} (h : ¬ phys s) : mRolls F b c d s j = F s j := by
  have h1 : s ≠ 119 := fun e => h (Or.inl e)
  have h2 : s ≠ 120 := fun e => h (Or.inr (Or.inl e))
  have h3 : s ≠ 121 := fun e => h (Or.inr (Or.inr (Or.inl e)))
  have h4 : s ≠ 22 := fun e => h (Or.inr (Or.inr (Or.inr (Or.inl e))))
  have h5 : s ≠ 23 := fun e => h (Or.inr (Or.inr (Or.inr (Or.inr (Or.inl e)))))
  have h6 : s ≠ 24 := fun e => h (Or.inr (Or.inr (Or.inr (Or.inr (Or.inr e)))))
  unfold mRolls
  split
  · split
    · unfold mMove
      split
      · rw [u2_o h6, u2_o h1, u2_o h3, u2_o h1]
      · rw [u2_o h3, u2_o h1]
    · unfold mMeet
      rw [u2_o h4, u2_o h5, u2_o h2, u2_o h3, u2_o h3]
  · unfold mOut
    rw [u2_o h3, u2_o h2, u2_o h2]
theorem mTick_o {F : FT} {s j : Nat} (h : ¬ phys s) : ∀ i, mTick F i s j = F s j
  | 0 => rfl
  | i + 1 => by
    show mStep (mTick F i) i s j = F s j
    unfold mStep
    split
    · exact mTick_o h i
    · split
      · exact mTick_o h i
      · rw [mRolls_o h]; exact mTick_o h i
theorem mRun_o {s j : Nat} (h : ¬ phys s) : ∀ (n : Nat) (F : FT), mRun F n s j = F s j
  | 0, _ => rfl
  | n + 1, F => by
    show (if anyB (isR F) 8 = true then mRun (mTick F 8) n else F) s j = F s j
    split
    · rw [mRun_o h n]; exact mTick_o h 8
    · rfl
theorem mShot_o {F : FT} {f d s j : Nat} {p : Int32} (h : ¬ phys s) : mShot F f d p s j = F s j := by
  unfold mShot
  rw [mRun_o h]
  have h1 : s ≠ 119 := fun e => h (Or.inl e)
  have h2 : s ≠ 120 := fun e => h (Or.inr (Or.inl e))
  have h3 : s ≠ 121 := fun e => h (Or.inr (Or.inr (Or.inl e)))
  have h4 : s ≠ 22 := fun e => h (Or.inr (Or.inr (Or.inr (Or.inl e))))
  have h5 : s ≠ 23 := fun e => h (Or.inr (Or.inr (Or.inr (Or.inr (Or.inl e)))))
  have h6 : s ≠ 24 := fun e => h (Or.inr (Or.inr (Or.inr (Or.inr (Or.inr e)))))
  unfold mS0
  rw [u2_o h6, u2_o h5, u2_o h4, u2_o h3, u2_o h2]
  exact iF_o ⟨h1, h2, h3⟩
theorem C_meetX {Γ : GTy} {Y : HS} (hS : MS Y) (F : FT) {x y z : Int32} {n : Nat} (hn : F 10 0 = nI n) (hx : ¬ (nI 0 ≤ x ∧ x ≤ nI n - nI 1)) : Tn Γ M_X10_meetings [.ref 900000, .int x, .int y, .int z] (wM Y F) (rt (some (.int (nI 0))) (wM Y (thr F (nI 1)))) := by
  refine Tn_of' rfl rfl rfl ?_
  show G Γ M_X10_meetings (rm M_X10_meetings) (Vn Γ M_X10_meetings (rt (some (.int (nI 0))) (wM Y (thr F (nI 1))))) (0, 0) 0 [some (.ref 900000), some (.int x), some (.int y), some (.int z)] [] (wM Y F)
  refine G_aload_n (pc := 0) dX10_meetings_0 rfl ?_
  refine G_iload_n (pc := 1) dX10_meetings_1 rfl ?_
  refine K_Vn1r (pc := 2) (k' := (0, 0)) mok_X10_asks lk_X10_160 hS.1 rfl rfl rfl (aok0 rfl) dX10_meetings_2 (C_asksX hS _ hn hx) rfl ?_
  refine G_if_neN (pc := 5) (tgt := 10) (by omega) dX10_meetings_5 (by decide) (fun h => absurd h (by decide)) (fun _ => ?_)
  refine G_iconst (pc := 8) (v := nI 0) dX10_meetings_8 (by first | rfl | decide) ?_
  refine G_iret (pc := 9) VZ.n dX10_meetings_9 rfl ⟨by decide, by decide⟩ ?_
  exact ⟨rfl, rfl⟩
theorem C_meet2 {Γ : GTy} {Y : HS} (hS : MS Y) (F : FT) {f n : Nat} (hf : f < n) (hn : F 10 0 = nI n) (n20 : n ≤ 20) {y z : Int32} (hy : ¬ ((nI 0 ≤ y ∧ y ≤ nI 7) ∧ (nI 1 ≤ z ∧ z ≤ nI 40))) : Tn Γ M_X10_meetings [.ref 900000, .int (nI f), .int y, .int z] (wM Y F) (rt (some (.int (nI 0))) (wM Y (thr (thr F (nI 0)) (nI 2)))) := by
  refine Tn_of' rfl rfl rfl ?_
  show G Γ M_X10_meetings (rm M_X10_meetings) (Vn Γ M_X10_meetings (rt (some (.int (nI 0))) (wM Y (thr (thr F (nI 0)) (nI 2))))) (0, 0) 0 [some (.ref 900000), some (.int (nI f)), some (.int y), some (.int z)] [] (wM Y F)
  refine G_aload_n (pc := 0) dX10_meetings_0 rfl ?_
  refine G_iload_n (pc := 1) dX10_meetings_1 rfl ?_
  refine K_Vn1r (pc := 2) (k' := (0, 0)) mok_X10_asks lk_X10_160 hS.1 rfl rfl rfl (aok0 rfl) dX10_meetings_2 (C_asksN hS _ hf hn n20) rfl ?_
  refine G_if_neN (pc := 5) (tgt := 10) (by omega) dX10_meetings_5 (by decide) (fun _ => ?_) (fun h => absurd h (by decide))
  refine G_aload_n (pc := 10) dX10_meetings_10 rfl ?_
  refine G_iload_n (pc := 11) dX10_meetings_11 rfl ?_
  refine G_iconst (pc := 12) (v := nI 0) dX10_meetings_12 (by first | rfl | decide) ?_
  refine G_bipush (pc := 13) (v := nI 7) dX10_meetings_13 (by first | rfl | decide) ?_
  refine K_Sn3r (pc := 15) (k' := (0, 0)) mok_X10_isIn lk_X10_75 rfl (aok0 rfl) dX10_meetings_15 (C_isIn _ _ _ _) rfl ?_
  refine G_if_eqB (pc := 18) (tgt := 35) dX10_meetings_18 (by decide) (fun c18 => ?_) (fun c18 => ?_)
  · skip
    refine G_iconst (pc := 35) (v := nI 2) dX10_meetings_35 (by first | rfl | decide) ?_
    refine M_put (pc := 36) hS fl_X10_72 fw_9_25 rfl dX10_meetings_36 ?_
    refine G_aload_n (pc := 39) dX10_meetings_39 rfl ?_
    refine M_get (pc := 40) hS fl_X10_72 rfl dX10_meetings_40 ?_
    show G _ _ _ _ _ _ _ (.int (nI 2) :: _) _
    refine G_if_leN (pc := 43) (tgt := 48) (by omega) dX10_meetings_43 (by decide) (fun h => absurd h (by decide)) (fun _ => ?_)
    refine G_iconst (pc := 46) (v := nI 0) dX10_meetings_46 (by first | rfl | decide) ?_
    refine G_iret (pc := 47) VZ.n dX10_meetings_47 rfl ⟨by decide, by decide⟩ ?_
    exact ⟨rfl, rfl⟩
  · skip
    refine G_iload_n (pc := 21) dX10_meetings_21 rfl ?_
    refine G_iconst (pc := 22) (v := nI 1) dX10_meetings_22 (by first | rfl | decide) ?_
    refine G_bipush (pc := 23) (v := nI 40) dX10_meetings_23 (by first | rfl | decide) ?_
    refine K_Sn3r (pc := 25) (k' := (0, 0)) mok_X10_isIn lk_X10_75 rfl (aok0 rfl) dX10_meetings_25 (C_isIn _ _ _ _) rfl ?_
    refine G_if_eqB (pc := 28) (tgt := 35) dX10_meetings_28 (by decide) (fun c28 => ?_) (fun c28 => ?_)
    · skip
      refine G_iconst (pc := 35) (v := nI 2) dX10_meetings_35 (by first | rfl | decide) ?_
      refine M_put (pc := 36) hS fl_X10_72 fw_9_25 rfl dX10_meetings_36 ?_
      refine G_aload_n (pc := 39) dX10_meetings_39 rfl ?_
      refine M_get (pc := 40) hS fl_X10_72 rfl dX10_meetings_40 ?_
      show G _ _ _ _ _ _ _ (.int (nI 2) :: _) _
      refine G_if_leN (pc := 43) (tgt := 48) (by omega) dX10_meetings_43 (by decide) (fun h => absurd h (by decide)) (fun _ => ?_)
      refine G_iconst (pc := 46) (v := nI 0) dX10_meetings_46 (by first | rfl | decide) ?_
      refine G_iret (pc := 47) VZ.n dX10_meetings_47 rfl ⟨by decide, by decide⟩ ?_
      exact ⟨rfl, rfl⟩
    · exact absurd ⟨c18, c28⟩ hy
theorem C_meetN {Γ : GTy} {Y : HS} (hS : MS Y) (F : FT) {f n : Nat} (hf : f < n) (hn : F 10 0 = nI n) (n20 : n ≤ 20) {d : Nat} {z : Int32} (d8 : d < 8) (hz : nI 1 ≤ z ∧ z ≤ nI 40) (hB : BV F f) : Tn Γ M_X10_meetings [.ref 900000, .int (nI f), .int (nI d), .int z] (wM Y F) (rt (some (.int (mShot (thr (thr F (nI 0)) (nI 0)) f d z 23 0))) (wM Y (mShot (thr (thr F (nI 0)) (nI 0)) f d z))) := by
  refine Tn_of' rfl rfl rfl ?_
  show G Γ M_X10_meetings (rm M_X10_meetings) (Vn Γ M_X10_meetings (rt (some (.int (mShot (thr (thr F (nI 0)) (nI 0)) f d z 23 0))) (wM Y (mShot (thr (thr F (nI 0)) (nI 0)) f d z)))) (0, 0) 0 [some (.ref 900000), some (.int (nI f)), some (.int (nI d)), some (.int z)] [] (wM Y F)
  refine G_aload_n (pc := 0) dX10_meetings_0 rfl ?_
  refine G_iload_n (pc := 1) dX10_meetings_1 rfl ?_
  refine K_Vn1r (pc := 2) (k' := (0, 0)) mok_X10_asks lk_X10_160 hS.1 rfl rfl rfl (aok0 rfl) dX10_meetings_2 (C_asksN hS _ hf hn n20) rfl ?_
  refine G_if_neN (pc := 5) (tgt := 10) (by omega) dX10_meetings_5 (by decide) (fun _ => ?_) (fun h => absurd h (by decide))
  refine G_aload_n (pc := 10) dX10_meetings_10 rfl ?_
  refine G_iload_n (pc := 11) dX10_meetings_11 rfl ?_
  refine G_iconst (pc := 12) (v := nI 0) dX10_meetings_12 (by first | rfl | decide) ?_
  refine G_bipush (pc := 13) (v := nI 7) dX10_meetings_13 (by first | rfl | decide) ?_
  refine K_Sn3r (pc := 15) (k' := (0, 0)) mok_X10_isIn lk_X10_75 rfl (aok0 rfl) dX10_meetings_15 (C_isInN (by omega) (by decide) _) rfl ?_
  refine G_if_eqN (pc := 18) (tgt := 35) (by omega) dX10_meetings_18 (by decide) (fun h => absurd h (by decide)) (fun _ => ?_)
  refine G_iload_n (pc := 21) dX10_meetings_21 rfl ?_
  refine G_iconst (pc := 22) (v := nI 1) dX10_meetings_22 (by first | rfl | decide) ?_
  refine G_bipush (pc := 23) (v := nI 40) dX10_meetings_23 (by first | rfl | decide) ?_
  refine K_Sn3r (pc := 25) (k' := (0, 0)) mok_X10_isIn lk_X10_75 rfl (aok0 rfl) dX10_meetings_25 (C_isIn _ _ _ _) rfl ?_
  refine G_if_eqB (pc := 28) (tgt := 35) dX10_meetings_28 (by decide) (fun c28 => ?_) (fun c28 => ?_)
  · exact absurd hz c28
  · skip
    refine G_iconst (pc := 31) (v := nI 0) dX10_meetings_31 (by first | rfl | decide) ?_
    refine G_goto (pc := 32) (tgt := 36) dX10_meetings_32 (by decide) ?_
    refine M_put (pc := 36) hS fl_X10_72 fw_9_25 rfl dX10_meetings_36 ?_
    refine G_aload_n (pc := 39) dX10_meetings_39 rfl ?_
    refine M_get (pc := 40) hS fl_X10_72 rfl dX10_meetings_40 ?_
    show G _ _ _ _ _ _ _ (.int (nI 0) :: _) _
    refine G_if_leN (pc := 43) (tgt := 48) (by omega) dX10_meetings_43 (by decide) (fun _ => ?_) (fun h => absurd h (by decide))
    refine G_aload_n (pc := 48) dX10_meetings_48 rfl ?_
    refine G_iload_n (pc := 49) dX10_meetings_49 rfl ?_
    refine G_iload_n (pc := 50) dX10_meetings_50 rfl ?_
    refine G_iload_n (pc := 51) dX10_meetings_51 rfl ?_
    refine K_Vn3v (pc := 52) (k' := (0, 0)) mok_X10_shot lk_X10_167 hS.1 rfl rfl rfl (aok0 rfl) dX10_meetings_52 (C_shot hS _ (by omega) d8 (show BV (thr (thr F (nI 0)) (nI 0)) f from hB)) rfl ?_
    refine G_aload_n (pc := 55) dX10_meetings_55 rfl ?_
    refine M_getv (pc := 56) (kk := 23) (v := mShot (thr (thr F (nI 0)) (nI 0)) f d z 23 0) rfl hS fl_X10_122 rfl dX10_meetings_56 ?_
    refine G_iret (pc := 59) VZ.n dX10_meetings_59 rfl ⟨by decide, by decide⟩ ?_
    exact ⟨rfl, rfl⟩
theorem C_contactsX {Γ : GTy} {Y : HS} (hS : MS Y) (F : FT) {x y z : Int32} {n : Nat} (hn : F 10 0 = nI n) (hx : ¬ (nI 0 ≤ x ∧ x ≤ nI n - nI 1)) : Tn Γ M_X10_contacts [.ref 900000, .int x, .int y, .int z] (wM Y F) (rt (some (.int (nI 0))) (wM Y (thr F (nI 1)))) := by
  refine Tn_of' rfl rfl rfl ?_
  show G Γ M_X10_contacts (rm M_X10_contacts) (Vn Γ M_X10_contacts (rt (some (.int (nI 0))) (wM Y (thr F (nI 1))))) (0, 0) 0 [some (.ref 900000), some (.int x), some (.int y), some (.int z)] [] (wM Y F)
  refine G_aload_n (pc := 0) dX10_contacts_0 rfl ?_
  refine G_iload_n (pc := 1) dX10_contacts_1 rfl ?_
  refine G_iload_n (pc := 2) dX10_contacts_2 rfl ?_
  refine G_iload_n (pc := 3) dX10_contacts_3 rfl ?_
  refine K_Vn3r (pc := 4) (k' := (0, 0)) mok_X10_meetings lk_X10_183 hS.1 rfl rfl rfl (aok0 rfl) dX10_contacts_4 (C_meetX hS _ hn hx) rfl ?_
  refine G_iret (pc := 7) VZ.n dX10_contacts_7 rfl ⟨by decide, by decide⟩ ?_
  exact ⟨rfl, rfl⟩
theorem C_contacts2 {Γ : GTy} {Y : HS} (hS : MS Y) (F : FT) {f n : Nat} (hf : f < n) (hn : F 10 0 = nI n) (n20 : n ≤ 20) {y z : Int32} (hy : ¬ ((nI 0 ≤ y ∧ y ≤ nI 7) ∧ (nI 1 ≤ z ∧ z ≤ nI 40))) : Tn Γ M_X10_contacts [.ref 900000, .int (nI f), .int y, .int z] (wM Y F) (rt (some (.int (nI 0))) (wM Y (thr (thr F (nI 0)) (nI 2)))) := by
  refine Tn_of' rfl rfl rfl ?_
  show G Γ M_X10_contacts (rm M_X10_contacts) (Vn Γ M_X10_contacts (rt (some (.int (nI 0))) (wM Y (thr (thr F (nI 0)) (nI 2))))) (0, 0) 0 [some (.ref 900000), some (.int (nI f)), some (.int y), some (.int z)] [] (wM Y F)
  refine G_aload_n (pc := 0) dX10_contacts_0 rfl ?_
  refine G_iload_n (pc := 1) dX10_contacts_1 rfl ?_
  refine G_iload_n (pc := 2) dX10_contacts_2 rfl ?_
  refine G_iload_n (pc := 3) dX10_contacts_3 rfl ?_
  refine K_Vn3r (pc := 4) (k' := (0, 0)) mok_X10_meetings lk_X10_183 hS.1 rfl rfl rfl (aok0 rfl) dX10_contacts_4 (C_meet2 hS _ hf hn n20 hy) rfl ?_
  refine G_iret (pc := 7) VZ.n dX10_contacts_7 rfl ⟨by decide, by decide⟩ ?_
  exact ⟨rfl, rfl⟩
theorem C_contactsN {Γ : GTy} {Y : HS} (hS : MS Y) (F : FT) {f n : Nat} (hf : f < n) (hn : F 10 0 = nI n) (n20 : n ≤ 20) {d : Nat} {z : Int32} (d8 : d < 8) (hz : nI 1 ≤ z ∧ z ≤ nI 40) (hB : BV F f) : Tn Γ M_X10_contacts [.ref 900000, .int (nI f), .int (nI d), .int z] (wM Y F) (rt (some (.int (mShot (thr (thr F (nI 0)) (nI 0)) f d z 23 0))) (wM Y (mShot (thr (thr F (nI 0)) (nI 0)) f d z))) := by
  refine Tn_of' rfl rfl rfl ?_
  show G Γ M_X10_contacts (rm M_X10_contacts) (Vn Γ M_X10_contacts (rt (some (.int (mShot (thr (thr F (nI 0)) (nI 0)) f d z 23 0))) (wM Y (mShot (thr (thr F (nI 0)) (nI 0)) f d z)))) (0, 0) 0 [some (.ref 900000), some (.int (nI f)), some (.int (nI d)), some (.int z)] [] (wM Y F)
  refine G_aload_n (pc := 0) dX10_contacts_0 rfl ?_
  refine G_iload_n (pc := 1) dX10_contacts_1 rfl ?_
  refine G_iload_n (pc := 2) dX10_contacts_2 rfl ?_
  refine G_iload_n (pc := 3) dX10_contacts_3 rfl ?_
  refine K_Vn3r (pc := 4) (k' := (0, 0)) mok_X10_meetings lk_X10_183 hS.1 rfl rfl rfl (aok0 rfl) dX10_contacts_4 (C_meetN hS _ hf hn n20 d8 hz hB) rfl ?_
  refine G_iret (pc := 7) VZ.n dX10_contacts_7 rfl ⟨by decide, by decide⟩ ?_
  exact ⟨rfl, rfl⟩
theorem C_contactsByPairsX {Γ : GTy} {Y : HS} (hS : MS Y) (F : FT) {x y z : Int32} {n : Nat} (hn : F 10 0 = nI n) (hx : ¬ (nI 0 ≤ x ∧ x ≤ nI n - nI 1)) : Tn Γ M_X10_contactsByPairs [.ref 900000, .int x, .int y, .int z] (wM Y F) (rt (some (.int (nI 0))) (wM Y (thr F (nI 1)))) := by
  refine Tn_of' rfl rfl rfl ?_
  show G Γ M_X10_contactsByPairs (rm M_X10_contactsByPairs) (Vn Γ M_X10_contactsByPairs (rt (some (.int (nI 0))) (wM Y (thr F (nI 1))))) (0, 0) 0 [some (.ref 900000), some (.int x), some (.int y), some (.int z)] [] (wM Y F)
  refine G_aload_n (pc := 0) dX10_contactsByPairs_0 rfl ?_
  refine G_iload_n (pc := 1) dX10_contactsByPairs_1 rfl ?_
  refine G_iload_n (pc := 2) dX10_contactsByPairs_2 rfl ?_
  refine G_iload_n (pc := 3) dX10_contactsByPairs_3 rfl ?_
  refine K_Vn3r (pc := 4) (k' := (0, 0)) mok_X10_meetings lk_X10_183 hS.1 rfl rfl rfl (aok0 rfl) dX10_contactsByPairs_4 (C_meetX hS _ hn hx) rfl ?_
  refine G_iret (pc := 7) VZ.n dX10_contactsByPairs_7 rfl ⟨by decide, by decide⟩ ?_
  exact ⟨rfl, rfl⟩
theorem C_contactsByPairs2 {Γ : GTy} {Y : HS} (hS : MS Y) (F : FT) {f n : Nat} (hf : f < n) (hn : F 10 0 = nI n) (n20 : n ≤ 20) {y z : Int32} (hy : ¬ ((nI 0 ≤ y ∧ y ≤ nI 7) ∧ (nI 1 ≤ z ∧ z ≤ nI 40))) : Tn Γ M_X10_contactsByPairs [.ref 900000, .int (nI f), .int y, .int z] (wM Y F) (rt (some (.int (nI 0))) (wM Y (thr (thr F (nI 0)) (nI 2)))) := by
  refine Tn_of' rfl rfl rfl ?_
  show G Γ M_X10_contactsByPairs (rm M_X10_contactsByPairs) (Vn Γ M_X10_contactsByPairs (rt (some (.int (nI 0))) (wM Y (thr (thr F (nI 0)) (nI 2))))) (0, 0) 0 [some (.ref 900000), some (.int (nI f)), some (.int y), some (.int z)] [] (wM Y F)
  refine G_aload_n (pc := 0) dX10_contactsByPairs_0 rfl ?_
  refine G_iload_n (pc := 1) dX10_contactsByPairs_1 rfl ?_
  refine G_iload_n (pc := 2) dX10_contactsByPairs_2 rfl ?_
  refine G_iload_n (pc := 3) dX10_contactsByPairs_3 rfl ?_
  refine K_Vn3r (pc := 4) (k' := (0, 0)) mok_X10_meetings lk_X10_183 hS.1 rfl rfl rfl (aok0 rfl) dX10_contactsByPairs_4 (C_meet2 hS _ hf hn n20 hy) rfl ?_
  refine G_iret (pc := 7) VZ.n dX10_contactsByPairs_7 rfl ⟨by decide, by decide⟩ ?_
  exact ⟨rfl, rfl⟩
theorem C_contactsByPairsN {Γ : GTy} {Y : HS} (hS : MS Y) (F : FT) {f n : Nat} (hf : f < n) (hn : F 10 0 = nI n) (n20 : n ≤ 20) {d : Nat} {z : Int32} (d8 : d < 8) (hz : nI 1 ≤ z ∧ z ≤ nI 40) (hB : BV F f) : Tn Γ M_X10_contactsByPairs [.ref 900000, .int (nI f), .int (nI d), .int z] (wM Y F) (rt (some (.int (mShot (thr (thr F (nI 0)) (nI 0)) f d z 23 0))) (wM Y (mShot (thr (thr F (nI 0)) (nI 0)) f d z))) := by
  refine Tn_of' rfl rfl rfl ?_
  show G Γ M_X10_contactsByPairs (rm M_X10_contactsByPairs) (Vn Γ M_X10_contactsByPairs (rt (some (.int (mShot (thr (thr F (nI 0)) (nI 0)) f d z 23 0))) (wM Y (mShot (thr (thr F (nI 0)) (nI 0)) f d z)))) (0, 0) 0 [some (.ref 900000), some (.int (nI f)), some (.int (nI d)), some (.int z)] [] (wM Y F)
  refine G_aload_n (pc := 0) dX10_contactsByPairs_0 rfl ?_
  refine G_iload_n (pc := 1) dX10_contactsByPairs_1 rfl ?_
  refine G_iload_n (pc := 2) dX10_contactsByPairs_2 rfl ?_
  refine G_iload_n (pc := 3) dX10_contactsByPairs_3 rfl ?_
  refine K_Vn3r (pc := 4) (k' := (0, 0)) mok_X10_meetings lk_X10_183 hS.1 rfl rfl rfl (aok0 rfl) dX10_contactsByPairs_4 (C_meetN hS _ hf hn n20 d8 hz hB) rfl ?_
  refine G_iret (pc := 7) VZ.n dX10_contactsByPairs_7 rfl ⟨by decide, by decide⟩ ?_
  exact ⟨rfl, rfl⟩
theorem C_shootX {Γ : GTy} {Y : HS} (hS : MS Y) (F : FT) {x y z : Int32} {n : Nat} (hn : F 10 0 = nI n) (hx : ¬ (nI 0 ≤ x ∧ x ≤ nI n - nI 1)) : Tn Γ M_X10_shoot [.ref 900000, .int x, .int y, .int z] (wM Y F) (rt (some (.int (nI 0))) (wM Y (thr F (nI 1)))) := by
  refine Tn_of' rfl rfl rfl ?_
  show G Γ M_X10_shoot (rm M_X10_shoot) (Vn Γ M_X10_shoot (rt (some (.int (nI 0))) (wM Y (thr F (nI 1))))) (0, 0) 0 [some (.ref 900000), some (.int x), some (.int y), some (.int z), none, none, none, none] [] (wM Y F)
  refine G_aload_n (pc := 0) dX10_shoot_0 rfl ?_
  refine G_iload_n (pc := 1) dX10_shoot_1 rfl ?_
  refine K_Vn1r (pc := 2) (k' := (0, 0)) mok_X10_asks lk_X10_160 hS.1 rfl rfl rfl (aok0 rfl) dX10_shoot_2 (C_asksX hS _ hn hx) rfl ?_
  refine G_if_neN (pc := 5) (tgt := 10) (by omega) dX10_shoot_5 (by decide) (fun h => absurd h (by decide)) (fun _ => ?_)
  refine G_iconst (pc := 8) (v := nI 0) dX10_shoot_8 (by first | rfl | decide) ?_
  refine G_iret (pc := 9) VZ.n dX10_shoot_9 rfl ⟨by decide, by decide⟩ ?_
  exact ⟨rfl, rfl⟩
theorem C_shoot2 {Γ : GTy} {Y : HS} (hS : MS Y) (F : FT) {f n : Nat} (hf : f < n) (hn : F 10 0 = nI n) (n20 : n ≤ 20) {y z : Int32} (hy : ¬ ((nI 0 ≤ y ∧ y ≤ nI 7) ∧ (nI 1 ≤ z ∧ z ≤ nI 40))) : Tn Γ M_X10_shoot [.ref 900000, .int (nI f), .int y, .int z] (wM Y F) (rt (some (.int (nI 0))) (wM Y (thr (thr F (nI 0)) (nI 2)))) := by
  refine Tn_of' rfl rfl rfl ?_
  show G Γ M_X10_shoot (rm M_X10_shoot) (Vn Γ M_X10_shoot (rt (some (.int (nI 0))) (wM Y (thr (thr F (nI 0)) (nI 2))))) (0, 0) 0 [some (.ref 900000), some (.int (nI f)), some (.int y), some (.int z), none, none, none, none] [] (wM Y F)
  refine G_aload_n (pc := 0) dX10_shoot_0 rfl ?_
  refine G_iload_n (pc := 1) dX10_shoot_1 rfl ?_
  refine K_Vn1r (pc := 2) (k' := (0, 0)) mok_X10_asks lk_X10_160 hS.1 rfl rfl rfl (aok0 rfl) dX10_shoot_2 (C_asksN hS _ hf hn n20) rfl ?_
  refine G_if_neN (pc := 5) (tgt := 10) (by omega) dX10_shoot_5 (by decide) (fun _ => ?_) (fun h => absurd h (by decide))
  refine G_aload_n (pc := 10) dX10_shoot_10 rfl ?_
  refine G_iload_n (pc := 11) dX10_shoot_11 rfl ?_
  refine G_iconst (pc := 12) (v := nI 0) dX10_shoot_12 (by first | rfl | decide) ?_
  refine G_bipush (pc := 13) (v := nI 7) dX10_shoot_13 (by first | rfl | decide) ?_
  refine K_Sn3r (pc := 15) (k' := (0, 0)) mok_X10_isIn lk_X10_75 rfl (aok0 rfl) dX10_shoot_15 (C_isIn _ _ _ _) rfl ?_
  refine G_if_eqB (pc := 18) (tgt := 31) dX10_shoot_18 (by decide) (fun c18 => ?_) (fun c18 => ?_)
  · skip
    refine G_iconst (pc := 31) (v := nI 2) dX10_shoot_31 (by first | rfl | decide) ?_
    refine G_goto (pc := 32) (tgt := 49) dX10_shoot_32 (by decide) ?_
    refine M_put (pc := 49) hS fl_X10_72 fw_9_25 rfl dX10_shoot_49 ?_
    refine G_aload_n (pc := 52) dX10_shoot_52 rfl ?_
    refine M_get (pc := 53) hS fl_X10_72 rfl dX10_shoot_53 ?_
    show G _ _ _ _ _ _ _ (.int (nI 2) :: _) _
    refine G_if_leN (pc := 56) (tgt := 61) (by omega) dX10_shoot_56 (by decide) (fun h => absurd h (by decide)) (fun _ => ?_)
    refine G_iconst (pc := 59) (v := nI 0) dX10_shoot_59 (by first | rfl | decide) ?_
    refine G_iret (pc := 60) VZ.n dX10_shoot_60 rfl ⟨by decide, by decide⟩ ?_
    exact ⟨rfl, rfl⟩
  · skip
    refine G_iload_n (pc := 21) dX10_shoot_21 rfl ?_
    refine G_iconst (pc := 22) (v := nI 1) dX10_shoot_22 (by first | rfl | decide) ?_
    refine G_bipush (pc := 23) (v := nI 40) dX10_shoot_23 (by first | rfl | decide) ?_
    refine K_Sn3r (pc := 25) (k' := (0, 0)) mok_X10_isIn lk_X10_75 rfl (aok0 rfl) dX10_shoot_25 (C_isIn _ _ _ _) rfl ?_
    refine G_if_neB (pc := 28) (tgt := 35) dX10_shoot_28 (by decide) (fun c28 => ?_) (fun c28 => ?_)
    · exact absurd ⟨c18, c28⟩ hy
    · skip
      refine G_iconst (pc := 31) (v := nI 2) dX10_shoot_31 (by first | rfl | decide) ?_
      refine G_goto (pc := 32) (tgt := 49) dX10_shoot_32 (by decide) ?_
      refine M_put (pc := 49) hS fl_X10_72 fw_9_25 rfl dX10_shoot_49 ?_
      refine G_aload_n (pc := 52) dX10_shoot_52 rfl ?_
      refine M_get (pc := 53) hS fl_X10_72 rfl dX10_shoot_53 ?_
      show G _ _ _ _ _ _ _ (.int (nI 2) :: _) _
      refine G_if_leN (pc := 56) (tgt := 61) (by omega) dX10_shoot_56 (by decide) (fun h => absurd h (by decide)) (fun _ => ?_)
      refine G_iconst (pc := 59) (v := nI 0) dX10_shoot_59 (by first | rfl | decide) ?_
      refine G_iret (pc := 60) VZ.n dX10_shoot_60 rfl ⟨by decide, by decide⟩ ?_
      exact ⟨rfl, rfl⟩
theorem C_shoot3 {Γ : GTy} {Y : HS} (hS : MS Y) (F : FT) {f n : Nat} (hf : f < n) (hn : F 10 0 = nI n) (n20 : n ≤ 20) {d : Nat} {z : Int32} (d8 : d < 8) (hz : nI 1 ≤ z ∧ z ≤ nI 40) (hs : ¬ F 113 f = 0) : Tn Γ M_X10_shoot [.ref 900000, .int (nI f), .int (nI d), .int z] (wM Y F) (rt (some (.int (nI 0))) (wM Y (thr (thr F (nI 0)) (nI 3)))) := by
  refine Tn_of' rfl rfl rfl ?_
  show G Γ M_X10_shoot (rm M_X10_shoot) (Vn Γ M_X10_shoot (rt (some (.int (nI 0))) (wM Y (thr (thr F (nI 0)) (nI 3))))) (0, 0) 0 [some (.ref 900000), some (.int (nI f)), some (.int (nI d)), some (.int z), none, none, none, none] [] (wM Y F)
  refine G_aload_n (pc := 0) dX10_shoot_0 rfl ?_
  refine G_iload_n (pc := 1) dX10_shoot_1 rfl ?_
  refine K_Vn1r (pc := 2) (k' := (0, 0)) mok_X10_asks lk_X10_160 hS.1 rfl rfl rfl (aok0 rfl) dX10_shoot_2 (C_asksN hS _ hf hn n20) rfl ?_
  refine G_if_neN (pc := 5) (tgt := 10) (by omega) dX10_shoot_5 (by decide) (fun _ => ?_) (fun h => absurd h (by decide))
  refine G_aload_n (pc := 10) dX10_shoot_10 rfl ?_
  refine G_iload_n (pc := 11) dX10_shoot_11 rfl ?_
  refine G_iconst (pc := 12) (v := nI 0) dX10_shoot_12 (by first | rfl | decide) ?_
  refine G_bipush (pc := 13) (v := nI 7) dX10_shoot_13 (by first | rfl | decide) ?_
  refine K_Sn3r (pc := 15) (k' := (0, 0)) mok_X10_isIn lk_X10_75 rfl (aok0 rfl) dX10_shoot_15 (C_isInN (by omega) (by decide) _) rfl ?_
  refine G_if_eqN (pc := 18) (tgt := 31) (by omega) dX10_shoot_18 (by decide) (fun h => absurd h (by decide)) (fun _ => ?_)
  refine G_iload_n (pc := 21) dX10_shoot_21 rfl ?_
  refine G_iconst (pc := 22) (v := nI 1) dX10_shoot_22 (by first | rfl | decide) ?_
  refine G_bipush (pc := 23) (v := nI 40) dX10_shoot_23 (by first | rfl | decide) ?_
  refine K_Sn3r (pc := 25) (k' := (0, 0)) mok_X10_isIn lk_X10_75 rfl (aok0 rfl) dX10_shoot_25 (C_isIn _ _ _ _) rfl ?_
  refine G_if_neB (pc := 28) (tgt := 35) dX10_shoot_28 (by decide) (fun c28 => ?_) (fun c28 => ?_)
  · skip
    refine G_aload_n (pc := 35) dX10_shoot_35 rfl ?_
    refine M_arr (pc := 36) (a := 1900113) hS fl_X10_45 rfl rfl dX10_shoot_36 ?_
    refine G_iload_n (pc := 39) dX10_shoot_39 rfl ?_
    refine M_ldv (pc := 40) (kk := 13) (j := f) (v := F 113 f) rfl hS rfl rfl rfl (show f < 20 by omega) dX10_shoot_40 ?_
    refine G_if_eq (pc := 41) (tgt := 48) dX10_shoot_41 (by decide) (fun c41 => ?_) (fun c41 => ?_)
    · exact absurd c41 hs
    · skip
      refine G_iconst (pc := 44) (v := nI 3) dX10_shoot_44 (by first | rfl | decide) ?_
      refine G_goto (pc := 45) (tgt := 49) dX10_shoot_45 (by decide) ?_
      refine M_put (pc := 49) hS fl_X10_72 fw_9_25 rfl dX10_shoot_49 ?_
      refine G_aload_n (pc := 52) dX10_shoot_52 rfl ?_
      refine M_get (pc := 53) hS fl_X10_72 rfl dX10_shoot_53 ?_
      show G _ _ _ _ _ _ _ (.int (nI 3) :: _) _
      refine G_if_leN (pc := 56) (tgt := 61) (by omega) dX10_shoot_56 (by decide) (fun h => absurd h (by decide)) (fun _ => ?_)
      refine G_iconst (pc := 59) (v := nI 0) dX10_shoot_59 (by first | rfl | decide) ?_
      refine G_iret (pc := 60) VZ.n dX10_shoot_60 rfl ⟨by decide, by decide⟩ ?_
      exact ⟨rfl, rfl⟩
  · exact absurd hz c28
