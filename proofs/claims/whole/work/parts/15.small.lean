-- ===== the model: small methods =====
def lastW (p : Nat → Prop) [DecidablePred p] : Nat → Int32
  | 0 => -1
  | n + 1 => if p n then nI n else lastW p n
def cnt (p : Nat → Prop) [DecidablePred p] : Nat → Nat
  | 0 => 0
  | n + 1 => cnt p n + (if p n then 1 else 0)
theorem lastW_congr {p q : Nat → Prop} [DecidablePred p] [DecidablePred q] : ∀ {n : Nat}, (∀ j, j < n → (p j ↔ q j)) → lastW p n = lastW q n
  | 0, _ => rfl
  | n + 1, h => by
    show (if p n then nI n else lastW p n) = (if q n then nI n else lastW q n)
    rw [lastW_congr (fun j hj => h j (Nat.lt_succ_of_lt hj))]
    simp only [h n (Nat.lt_succ_self n)]
theorem lastW_spec (p : Nat → Prop) [DecidablePred p] : ∀ n, (lastW p n = -1 ∧ ∀ j, j < n → ¬ p j) ∨ ∃ j, j < n ∧ p j ∧ lastW p n = nI j ∧ ∀ i, j < i → i < n → ¬ p i
  | 0 => Or.inl ⟨rfl, fun _ h => absurd h (Nat.not_lt_zero _)⟩
  | n + 1 => by
    show ((if p n then nI n else lastW p n) = -1 ∧ _) ∨ ∃ j, j < n + 1 ∧ p j ∧ (if p n then nI n else lastW p n) = nI j ∧ _
    by_cases h : p n
    · exact Or.inr ⟨n, Nat.lt_succ_self n, h, if_pos h, fun i h1 h2 => absurd h1 (by omega)⟩
    · rw [if_neg h]
      rcases lastW_spec p n with ⟨h1, h2⟩ | ⟨j, h1, h2, h3, h4⟩
      · exact Or.inl ⟨h1, fun j hj => by by_cases e : j = n; (subst e; exact h); exact h2 j (by omega)⟩
      · exact Or.inr ⟨j, Nat.lt_succ_of_lt h1, h2, h3, fun i g1 g2 => by by_cases e : i = n; (subst e; exact h); exact h4 i g1 (by omega)⟩
theorem cnt_le (p : Nat → Prop) [DecidablePred p] : ∀ n, cnt p n ≤ n
  | 0 => Nat.le_refl _
  | n + 1 => by
    have := cnt_le p n
    show cnt p n + (if p n then 1 else 0) ≤ n + 1
    split <;> omega
theorem cnt_congr {p q : Nat → Prop} [DecidablePred p] [DecidablePred q] : ∀ {n : Nat}, (∀ j, j < n → (p j ↔ q j)) → cnt p n = cnt q n
  | 0, _ => rfl
  | n + 1, h => by
    show cnt p n + (if p n then 1 else 0) = cnt q n + (if q n then 1 else 0)
    rw [cnt_congr (fun j hj => h j (Nat.lt_succ_of_lt hj))]
    simp only [h n (Nat.lt_succ_self n)]
theorem inN {a n : Nat} (h : a ≤ n) (hn : n < 2 ^ 31) : nI 0 ≤ nI a ∧ nI a ≤ nI n := ⟨nI_le (Nat.zero_le _) (by omega), nI_le h hn⟩
/-- thrown -/
def thr (F : FT) (v : Int32) : FT := u2 F 25 0 v
theorem C_isIn {Γ : GTy} (x lo hi : Int32) (Y : HS) : Tn Γ M_X10_isIn [.int x, .int lo, .int hi] Y (rt (some (.int (b2 (lo ≤ x ∧ x ≤ hi)))) Y) := by
  refine Tn_of' rfl rfl rfl ?_
  show G Γ M_X10_isIn (rm M_X10_isIn) (Vn Γ M_X10_isIn (rt (some (.int (b2 (lo ≤ x ∧ x ≤ hi)))) Y)) (0, 0) 0 [some (.int x), some (.int lo), some (.int hi)] [] Y
  refine G_iload_n (pc := 0) dX10_isIn_0 rfl ?_
  refine G_iload_n (pc := 1) dX10_isIn_1 rfl ?_
  refine G_icmp_lt (pc := 2) (tgt := 14) dX10_isIn_2 (by decide) (fun c2 => ?_) (fun c2 => ?_)
  · skip
    have e := b2_f (p := lo ≤ x ∧ x ≤ hi) (fun h => Int32.not_lt.mpr h.1 c2)
    refine G_iconst (pc := 14) (v := nI 0) dX10_isIn_14 (by first | rfl | decide) ?_
    refine G_zret (pc := 15) VZ.n dX10_isIn_15 rfl (by first | exact Or.inl rfl | exact Or.inr rfl | exact b2_or _ | assumption) ⟨by decide, by decide⟩ ?_
    exact ⟨congrArg (fun z => some (Value.int z)) e.symm, rfl⟩
  · skip
    refine G_iload_n (pc := 5) dX10_isIn_5 rfl ?_
    refine G_iload_n (pc := 6) dX10_isIn_6 rfl ?_
    refine G_icmp_gt (pc := 7) (tgt := 14) dX10_isIn_7 (by decide) (fun c7 => ?_) (fun c7 => ?_)
    · skip
      have e := b2_f (p := lo ≤ x ∧ x ≤ hi) (fun h => Int32.not_lt.mpr h.2 c7)
      refine G_iconst (pc := 14) (v := nI 0) dX10_isIn_14 (by first | rfl | decide) ?_
      refine G_zret (pc := 15) VZ.n dX10_isIn_15 rfl (by first | exact Or.inl rfl | exact Or.inr rfl | exact b2_or _ | assumption) ⟨by decide, by decide⟩ ?_
      exact ⟨congrArg (fun z => some (Value.int z)) e.symm, rfl⟩
    · skip
      have e := b2_t (p := lo ≤ x ∧ x ≤ hi) ⟨Int32.not_lt.mp c2, Int32.not_lt.mp c7⟩
      refine G_iconst (pc := 10) (v := nI 1) dX10_isIn_10 (by first | rfl | decide) ?_
      refine G_goto (pc := 11) (tgt := 15) dX10_isIn_11 (by decide) ?_
      refine G_zret (pc := 15) VZ.n dX10_isIn_15 rfl (by first | exact Or.inl rfl | exact Or.inr rfl | exact b2_or _ | assumption) ⟨by decide, by decide⟩ ?_
      exact ⟨congrArg (fun z => some (Value.int z)) e.symm, rfl⟩
theorem C_isTable {Γ : GTy} (x : Int32) (Y : HS) : Tn Γ M_X10_isTable [.int x] Y (rt (some (.int (b2 (nI 0 ≤ x ∧ x ≤ nI 3)))) Y) := by
  refine Tn_of' rfl rfl rfl ?_
  show G Γ M_X10_isTable (rm M_X10_isTable) (Vn Γ M_X10_isTable (rt (some (.int (b2 (nI 0 ≤ x ∧ x ≤ nI 3)))) Y)) (0, 0) 0 [some (.int x)] [] Y
  refine G_iload_n (pc := 0) dX10_isTable_0 rfl ?_
  refine G_iconst (pc := 1) (v := nI 0) dX10_isTable_1 (by first | rfl | decide) ?_
  refine G_iconst (pc := 2) (v := nI 3) dX10_isTable_2 (by first | rfl | decide) ?_
  refine K_Sn3r (pc := 3) (k' := (0, 0)) mok_X10_isIn lk_X10_75 rfl (aok0 rfl) dX10_isTable_3 (C_isIn _ _ _ _) rfl ?_
  refine G_zret (pc := 6) VZ.n dX10_isTable_6 rfl (by first | exact Or.inl rfl | exact Or.inr rfl | exact b2_or _ | assumption) ⟨by decide, by decide⟩ ?_
  exact ⟨rfl, rfl⟩
theorem C_isCustomer {Γ : GTy} (x : Int32) (Y : HS) : Tn Γ M_X10_isCustomer [.int x] Y (rt (some (.int (b2 (nI 0 ≤ x ∧ x ≤ nI 7)))) Y) := by
  refine Tn_of' rfl rfl rfl ?_
  show G Γ M_X10_isCustomer (rm M_X10_isCustomer) (Vn Γ M_X10_isCustomer (rt (some (.int (b2 (nI 0 ≤ x ∧ x ≤ nI 7)))) Y)) (0, 0) 0 [some (.int x)] [] Y
  refine G_iload_n (pc := 0) dX10_isCustomer_0 rfl ?_
  refine G_iconst (pc := 1) (v := nI 0) dX10_isCustomer_1 (by first | rfl | decide) ?_
  refine G_bipush (pc := 2) (v := nI 7) dX10_isCustomer_2 (by first | rfl | decide) ?_
  refine K_Sn3r (pc := 4) (k' := (0, 0)) mok_X10_isIn lk_X10_75 rfl (aok0 rfl) dX10_isCustomer_4 (C_isIn _ _ _ _) rfl ?_
  refine G_zret (pc := 7) VZ.n dX10_isCustomer_7 rfl (by first | exact Or.inl rfl | exact Or.inr rfl | exact b2_or _ | assumption) ⟨by decide, by decide⟩ ?_
  exact ⟨rfl, rfl⟩
theorem C_isCue {Γ : GTy} (x : Int32) (Y : HS) : Tn Γ M_X10_isCue [.int x] Y (rt (some (.int (b2 (nI 0 ≤ x ∧ x ≤ nI 5)))) Y) := by
  refine Tn_of' rfl rfl rfl ?_
  show G Γ M_X10_isCue (rm M_X10_isCue) (Vn Γ M_X10_isCue (rt (some (.int (b2 (nI 0 ≤ x ∧ x ≤ nI 5)))) Y)) (0, 0) 0 [some (.int x)] [] Y
  refine G_iload_n (pc := 0) dX10_isCue_0 rfl ?_
  refine G_iconst (pc := 1) (v := nI 0) dX10_isCue_1 (by first | rfl | decide) ?_
  refine G_iconst (pc := 2) (v := nI 5) dX10_isCue_2 (by first | rfl | decide) ?_
  refine K_Sn3r (pc := 3) (k' := (0, 0)) mok_X10_isIn lk_X10_75 rfl (aok0 rfl) dX10_isCue_3 (C_isIn _ _ _ _) rfl ?_
  refine G_zret (pc := 6) VZ.n dX10_isCue_6 rfl (by first | exact Or.inl rfl | exact Or.inr rfl | exact b2_or _ | assumption) ⟨by decide, by decide⟩ ?_
  exact ⟨rfl, rfl⟩
theorem C_thrown {Γ : GTy} {Y : HS} (hS : MS Y) (F : FT)  : Tn Γ M_X10_thrown [.ref 900000] (wM Y F) (rt (some (.int (F 25 0))) (wM Y F)) := by
  refine Tn_of' rfl rfl rfl ?_
  show G Γ M_X10_thrown (rm M_X10_thrown) (Vn Γ M_X10_thrown (rt (some (.int (F 25 0))) (wM Y F))) (0, 0) 0 [some (.ref 900000)] [] (wM Y F)
  refine G_aload_n (pc := 0) dX10_thrown_0 rfl ?_
  refine M_get (pc := 1) hS fl_X10_72 rfl dX10_thrown_1 ?_
  refine G_iret (pc := 4) VZ.n dX10_thrown_4 rfl ⟨by decide, by decide⟩ ?_
  exact ⟨rfl, rfl⟩
def spN : Nat → Nat := fun j => match j with
  | 0 => 67
  | 1 => 74
  | 2 => 59
  | 3 => 91
  | 4 => 44
  | 5 => 76
  | 6 => 108
  | _ => 77
theorem C_spot_0 {Γ : GTy} (Y : HS) : Tn Γ M_X10_spot [.int (nI 0)] Y (rt (some (.int (nI 67))) Y) := by
  refine Tn_of' rfl rfl rfl ?_
  show G Γ M_X10_spot (rm M_X10_spot) (Vn Γ M_X10_spot (rt (some (.int (nI 67))) Y)) (0, 0) 0 [some (.int (nI 0))] [] Y
  refine G_iload_n (pc := 0) dX10_spot_0 rfl ?_
  refine G_tableIn (pc := 1) (off := 43) (tgt := 44) dX10_spot_1 (by decide) (by decide) rfl (by decide) ?_
  refine G_bipush (pc := 44) (v := nI 67) dX10_spot_44 (by first | rfl | decide) ?_
  refine G_iret (pc := 46) VZ.n dX10_spot_46 rfl ⟨by decide, by decide⟩ ?_
  exact ⟨rfl, rfl⟩
theorem C_spot_1 {Γ : GTy} (Y : HS) : Tn Γ M_X10_spot [.int (nI 1)] Y (rt (some (.int (nI 74))) Y) := by
  refine Tn_of' rfl rfl rfl ?_
  show G Γ M_X10_spot (rm M_X10_spot) (Vn Γ M_X10_spot (rt (some (.int (nI 74))) Y)) (0, 0) 0 [some (.int (nI 1))] [] Y
  refine G_iload_n (pc := 0) dX10_spot_0 rfl ?_
  refine G_tableIn (pc := 1) (off := 46) (tgt := 47) dX10_spot_1 (by decide) (by decide) rfl (by decide) ?_
  refine G_bipush (pc := 47) (v := nI 74) dX10_spot_47 (by first | rfl | decide) ?_
  refine G_iret (pc := 49) VZ.n dX10_spot_49 rfl ⟨by decide, by decide⟩ ?_
  exact ⟨rfl, rfl⟩
theorem C_spot_2 {Γ : GTy} (Y : HS) : Tn Γ M_X10_spot [.int (nI 2)] Y (rt (some (.int (nI 59))) Y) := by
  refine Tn_of' rfl rfl rfl ?_
  show G Γ M_X10_spot (rm M_X10_spot) (Vn Γ M_X10_spot (rt (some (.int (nI 59))) Y)) (0, 0) 0 [some (.int (nI 2))] [] Y
  refine G_iload_n (pc := 0) dX10_spot_0 rfl ?_
  refine G_tableIn (pc := 1) (off := 49) (tgt := 50) dX10_spot_1 (by decide) (by decide) rfl (by decide) ?_
  refine G_bipush (pc := 50) (v := nI 59) dX10_spot_50 (by first | rfl | decide) ?_
  refine G_iret (pc := 52) VZ.n dX10_spot_52 rfl ⟨by decide, by decide⟩ ?_
  exact ⟨rfl, rfl⟩
theorem C_spot_3 {Γ : GTy} (Y : HS) : Tn Γ M_X10_spot [.int (nI 3)] Y (rt (some (.int (nI 91))) Y) := by
  refine Tn_of' rfl rfl rfl ?_
  show G Γ M_X10_spot (rm M_X10_spot) (Vn Γ M_X10_spot (rt (some (.int (nI 91))) Y)) (0, 0) 0 [some (.int (nI 3))] [] Y
  refine G_iload_n (pc := 0) dX10_spot_0 rfl ?_
  refine G_tableIn (pc := 1) (off := 52) (tgt := 53) dX10_spot_1 (by decide) (by decide) rfl (by decide) ?_
  refine G_bipush (pc := 53) (v := nI 91) dX10_spot_53 (by first | rfl | decide) ?_
  refine G_iret (pc := 55) VZ.n dX10_spot_55 rfl ⟨by decide, by decide⟩ ?_
  exact ⟨rfl, rfl⟩
theorem C_spot_4 {Γ : GTy} (Y : HS) : Tn Γ M_X10_spot [.int (nI 4)] Y (rt (some (.int (nI 44))) Y) := by
  refine Tn_of' rfl rfl rfl ?_
  show G Γ M_X10_spot (rm M_X10_spot) (Vn Γ M_X10_spot (rt (some (.int (nI 44))) Y)) (0, 0) 0 [some (.int (nI 4))] [] Y
  refine G_iload_n (pc := 0) dX10_spot_0 rfl ?_
  refine G_tableIn (pc := 1) (off := 55) (tgt := 56) dX10_spot_1 (by decide) (by decide) rfl (by decide) ?_
  refine G_bipush (pc := 56) (v := nI 44) dX10_spot_56 (by first | rfl | decide) ?_
  refine G_iret (pc := 58) VZ.n dX10_spot_58 rfl ⟨by decide, by decide⟩ ?_
  exact ⟨rfl, rfl⟩
theorem C_spot_5 {Γ : GTy} (Y : HS) : Tn Γ M_X10_spot [.int (nI 5)] Y (rt (some (.int (nI 76))) Y) := by
  refine Tn_of' rfl rfl rfl ?_
  show G Γ M_X10_spot (rm M_X10_spot) (Vn Γ M_X10_spot (rt (some (.int (nI 76))) Y)) (0, 0) 0 [some (.int (nI 5))] [] Y
  refine G_iload_n (pc := 0) dX10_spot_0 rfl ?_
  refine G_tableIn (pc := 1) (off := 58) (tgt := 59) dX10_spot_1 (by decide) (by decide) rfl (by decide) ?_
  refine G_bipush (pc := 59) (v := nI 76) dX10_spot_59 (by first | rfl | decide) ?_
  refine G_iret (pc := 61) VZ.n dX10_spot_61 rfl ⟨by decide, by decide⟩ ?_
  exact ⟨rfl, rfl⟩
theorem C_spot_6 {Γ : GTy} (Y : HS) : Tn Γ M_X10_spot [.int (nI 6)] Y (rt (some (.int (nI 108))) Y) := by
  refine Tn_of' rfl rfl rfl ?_
  show G Γ M_X10_spot (rm M_X10_spot) (Vn Γ M_X10_spot (rt (some (.int (nI 108))) Y)) (0, 0) 0 [some (.int (nI 6))] [] Y
  refine G_iload_n (pc := 0) dX10_spot_0 rfl ?_
  refine G_tableIn (pc := 1) (off := 61) (tgt := 62) dX10_spot_1 (by decide) (by decide) rfl (by decide) ?_
  refine G_bipush (pc := 62) (v := nI 108) dX10_spot_62 (by first | rfl | decide) ?_
  refine G_iret (pc := 64) VZ.n dX10_spot_64 rfl ⟨by decide, by decide⟩ ?_
  exact ⟨rfl, rfl⟩
theorem C_spot_7 {Γ : GTy} (Y : HS) : Tn Γ M_X10_spot [.int (nI 7)] Y (rt (some (.int (nI 77))) Y) := by
  refine Tn_of' rfl rfl rfl ?_
  show G Γ M_X10_spot (rm M_X10_spot) (Vn Γ M_X10_spot (rt (some (.int (nI 77))) Y)) (0, 0) 0 [some (.int (nI 7))] [] Y
  refine G_iload_n (pc := 0) dX10_spot_0 rfl ?_
  refine G_tableOut (pc := 1) (tgt := 65) dX10_spot_1 (by decide) (by decide) ?_
  refine G_bipush (pc := 65) (v := nI 77) dX10_spot_65 (by first | rfl | decide) ?_
  refine G_iret (pc := 67) VZ.n dX10_spot_67 rfl ⟨by decide, by decide⟩ ?_
  exact ⟨rfl, rfl⟩
theorem C_spot {Γ : GTy} {j : Nat} (hj : j < 8) (Y : HS) : Tn Γ M_X10_spot [.int (nI j)] Y (rt (some (.int (nI (spN j)))) Y) := by
  rcases j with _ | _ | _ | _ | _ | _ | _ | _ | j
  · exact C_spot_0 Y
  · exact C_spot_1 Y
  · exact C_spot_2 Y
  · exact C_spot_3 Y
  · exact C_spot_4 Y
  · exact C_spot_5 Y
  · exact C_spot_6 Y
  · exact C_spot_7 Y
  · omega
abbrev pkN (c : Nat) : Prop := (c / 16 = 0 ∨ c / 16 = 7) ∧ (c % 16 = 0 ∨ c % 16 = 7 ∨ c % 16 = 15)
theorem C_pocketM {Γ : GTy} {c : Nat} (hc : c < 128) (Y : HS) : Tn Γ M_X10_isPocket [.int (nI c)] Y (rt (some (.int (b2 (pkN c)))) Y) := by
  refine Tn_of' rfl rfl rfl ?_
  show G Γ M_X10_isPocket (rm M_X10_isPocket) (Vn Γ M_X10_isPocket (rt (some (.int (b2 (pkN c)))) Y)) (0, 0) 0 [some (.int (nI c)), none] [] Y
  refine G_iload_n (pc := 0) dX10_isPocket_0 rfl ?_
  refine G_bipush (pc := 1) (v := nI 16) dX10_isPocket_1 (by first | rfl | decide) ?_
  refine G_iremN (pc := 3) (by omega) (by omega) (by omega) dX10_isPocket_3 ?_
  refine G_istore_n (pc := 4) dX10_isPocket_4 (by decide) ?_
  refine G_iload_n (pc := 5) dX10_isPocket_5 rfl ?_
  refine G_bipush (pc := 6) (v := nI 16) dX10_isPocket_6 (by first | rfl | decide) ?_
  refine G_idivN (pc := 8) (by omega) (by omega) (by omega) dX10_isPocket_8 ?_
  refine G_if_eqN (pc := 9) (tgt := 21) (by omega) dX10_isPocket_9 (by decide) (fun c9 => ?_) (fun c9 => ?_)
  · skip
    refine G_iload_n (pc := 21) dX10_isPocket_21 rfl ?_
    refine G_if_eqN (pc := 22) (tgt := 37) (by omega) dX10_isPocket_22 (by decide) (fun c22 => ?_) (fun c22 => ?_)
    · skip
      refine G_iconst (pc := 37) (v := nI 1) dX10_isPocket_37 (by first | rfl | decide) ?_
      refine G_goto (pc := 38) (tgt := 42) dX10_isPocket_38 (by decide) ?_
      refine G_zret (pc := 42) VZ.n dX10_isPocket_42 rfl (by first | exact Or.inl rfl | exact Or.inr rfl | exact b2_or _ | assumption) ⟨by decide, by decide⟩ ?_
      exact ⟨congrArg (fun z => some (Value.int z)) (by first | exact (b2_t (by unfold pkN; omega)).symm | exact (b2_f (by unfold pkN; omega)).symm), rfl⟩
    · skip
      refine G_iload_n (pc := 25) dX10_isPocket_25 rfl ?_
      refine G_bipush (pc := 26) (v := nI 7) dX10_isPocket_26 (by first | rfl | decide) ?_
      refine G_icmp_eqN (pc := 28) (tgt := 37) (by omega) (by omega) dX10_isPocket_28 (by decide) (fun c28 => ?_) (fun c28 => ?_)
      · skip
        refine G_iconst (pc := 37) (v := nI 1) dX10_isPocket_37 (by first | rfl | decide) ?_
        refine G_goto (pc := 38) (tgt := 42) dX10_isPocket_38 (by decide) ?_
        refine G_zret (pc := 42) VZ.n dX10_isPocket_42 rfl (by first | exact Or.inl rfl | exact Or.inr rfl | exact b2_or _ | assumption) ⟨by decide, by decide⟩ ?_
        exact ⟨congrArg (fun z => some (Value.int z)) (by first | exact (b2_t (by unfold pkN; omega)).symm | exact (b2_f (by unfold pkN; omega)).symm), rfl⟩
      · skip
        refine G_iload_n (pc := 31) dX10_isPocket_31 rfl ?_
        refine G_bipush (pc := 32) (v := nI 15) dX10_isPocket_32 (by first | rfl | decide) ?_
        refine G_icmp_neN (pc := 34) (tgt := 41) (by omega) (by omega) dX10_isPocket_34 (by decide) (fun c34 => ?_) (fun c34 => ?_)
        · skip
          refine G_iconst (pc := 41) (v := nI 0) dX10_isPocket_41 (by first | rfl | decide) ?_
          refine G_zret (pc := 42) VZ.n dX10_isPocket_42 rfl (by first | exact Or.inl rfl | exact Or.inr rfl | exact b2_or _ | assumption) ⟨by decide, by decide⟩ ?_
          exact ⟨congrArg (fun z => some (Value.int z)) (by first | exact (b2_t (by unfold pkN; omega)).symm | exact (b2_f (by unfold pkN; omega)).symm), rfl⟩
        · skip
          refine G_iconst (pc := 37) (v := nI 1) dX10_isPocket_37 (by first | rfl | decide) ?_
          refine G_goto (pc := 38) (tgt := 42) dX10_isPocket_38 (by decide) ?_
          refine G_zret (pc := 42) VZ.n dX10_isPocket_42 rfl (by first | exact Or.inl rfl | exact Or.inr rfl | exact b2_or _ | assumption) ⟨by decide, by decide⟩ ?_
          exact ⟨congrArg (fun z => some (Value.int z)) (by first | exact (b2_t (by unfold pkN; omega)).symm | exact (b2_f (by unfold pkN; omega)).symm), rfl⟩
  · skip
    refine G_iload_n (pc := 12) dX10_isPocket_12 rfl ?_
    refine G_bipush (pc := 13) (v := nI 16) dX10_isPocket_13 (by first | rfl | decide) ?_
    refine G_idivN (pc := 15) (by omega) (by omega) (by omega) dX10_isPocket_15 ?_
    refine G_bipush (pc := 16) (v := nI 7) dX10_isPocket_16 (by first | rfl | decide) ?_
    refine G_icmp_neN (pc := 18) (tgt := 41) (by omega) (by omega) dX10_isPocket_18 (by decide) (fun c18 => ?_) (fun c18 => ?_)
    · skip
      refine G_iconst (pc := 41) (v := nI 0) dX10_isPocket_41 (by first | rfl | decide) ?_
      refine G_zret (pc := 42) VZ.n dX10_isPocket_42 rfl (by first | exact Or.inl rfl | exact Or.inr rfl | exact b2_or _ | assumption) ⟨by decide, by decide⟩ ?_
      exact ⟨congrArg (fun z => some (Value.int z)) (by first | exact (b2_t (by unfold pkN; omega)).symm | exact (b2_f (by unfold pkN; omega)).symm), rfl⟩
    · skip
      refine G_iload_n (pc := 21) dX10_isPocket_21 rfl ?_
      refine G_if_eqN (pc := 22) (tgt := 37) (by omega) dX10_isPocket_22 (by decide) (fun c22 => ?_) (fun c22 => ?_)
      · skip
        refine G_iconst (pc := 37) (v := nI 1) dX10_isPocket_37 (by first | rfl | decide) ?_
        refine G_goto (pc := 38) (tgt := 42) dX10_isPocket_38 (by decide) ?_
        refine G_zret (pc := 42) VZ.n dX10_isPocket_42 rfl (by first | exact Or.inl rfl | exact Or.inr rfl | exact b2_or _ | assumption) ⟨by decide, by decide⟩ ?_
        exact ⟨congrArg (fun z => some (Value.int z)) (by first | exact (b2_t (by unfold pkN; omega)).symm | exact (b2_f (by unfold pkN; omega)).symm), rfl⟩
      · skip
        refine G_iload_n (pc := 25) dX10_isPocket_25 rfl ?_
        refine G_bipush (pc := 26) (v := nI 7) dX10_isPocket_26 (by first | rfl | decide) ?_
        refine G_icmp_eqN (pc := 28) (tgt := 37) (by omega) (by omega) dX10_isPocket_28 (by decide) (fun c28 => ?_) (fun c28 => ?_)
        · skip
          refine G_iconst (pc := 37) (v := nI 1) dX10_isPocket_37 (by first | rfl | decide) ?_
          refine G_goto (pc := 38) (tgt := 42) dX10_isPocket_38 (by decide) ?_
          refine G_zret (pc := 42) VZ.n dX10_isPocket_42 rfl (by first | exact Or.inl rfl | exact Or.inr rfl | exact b2_or _ | assumption) ⟨by decide, by decide⟩ ?_
          exact ⟨congrArg (fun z => some (Value.int z)) (by first | exact (b2_t (by unfold pkN; omega)).symm | exact (b2_f (by unfold pkN; omega)).symm), rfl⟩
        · skip
          refine G_iload_n (pc := 31) dX10_isPocket_31 rfl ?_
          refine G_bipush (pc := 32) (v := nI 15) dX10_isPocket_32 (by first | rfl | decide) ?_
          refine G_icmp_neN (pc := 34) (tgt := 41) (by omega) (by omega) dX10_isPocket_34 (by decide) (fun c34 => ?_) (fun c34 => ?_)
          · skip
            refine G_iconst (pc := 41) (v := nI 0) dX10_isPocket_41 (by first | rfl | decide) ?_
            refine G_zret (pc := 42) VZ.n dX10_isPocket_42 rfl (by first | exact Or.inl rfl | exact Or.inr rfl | exact b2_or _ | assumption) ⟨by decide, by decide⟩ ?_
            exact ⟨congrArg (fun z => some (Value.int z)) (by first | exact (b2_t (by unfold pkN; omega)).symm | exact (b2_f (by unfold pkN; omega)).symm), rfl⟩
          · skip
            refine G_iconst (pc := 37) (v := nI 1) dX10_isPocket_37 (by first | rfl | decide) ?_
            refine G_goto (pc := 38) (tgt := 42) dX10_isPocket_38 (by decide) ?_
            refine G_zret (pc := 42) VZ.n dX10_isPocket_42 rfl (by first | exact Or.inl rfl | exact Or.inr rfl | exact b2_or _ | assumption) ⟨by decide, by decide⟩ ?_
            exact ⟨congrArg (fun z => some (Value.int z)) (by first | exact (b2_t (by unfold pkN; omega)).symm | exact (b2_f (by unfold pkN; omega)).symm), rfl⟩
def mSetPrice (F : FT) (x : Int32) : Int32 × FT := if nI 0 ≤ x ∧ x ≤ nI 50 then (F 1 0, u2 (thr F (nI 0)) 1 0 x) else (nI 0, thr F (nI 1))
theorem C_setPrice {Γ : GTy} {Y : HS} (hS : MS Y) (F : FT) (x : Int32) : Tn Γ M_X10_setPrice [.ref 900000, .int x] (wM Y F) (rt (some (.int (mSetPrice F x).1)) (wM Y (mSetPrice F x).2)) := by
  refine Tn_of' rfl rfl rfl ?_
  show G Γ M_X10_setPrice (rm M_X10_setPrice) (Vn Γ M_X10_setPrice (rt (some (.int (mSetPrice F x).1)) (wM Y (mSetPrice F x).2))) (0, 0) 0 [some (.ref 900000), some (.int x), none] [] (wM Y F)
  refine G_aload_n (pc := 0) dX10_setPrice_0 rfl ?_
  refine G_iload_n (pc := 1) dX10_setPrice_1 rfl ?_
  refine G_iconst (pc := 2) (v := nI 0) dX10_setPrice_2 (by first | rfl | decide) ?_
  refine G_bipush (pc := 3) (v := nI 50) dX10_setPrice_3 (by first | rfl | decide) ?_
  refine K_Sn3r (pc := 5) (k' := (0, 0)) mok_X10_isIn lk_X10_75 rfl (aok0 rfl) dX10_setPrice_5 (C_isIn _ _ _ _) rfl ?_
  refine G_if_eqB (pc := 8) (tgt := 15) dX10_setPrice_8 (by decide) (fun c8 => ?_) (fun c8 => ?_)
  · skip
    refine G_iconst (pc := 15) (v := nI 1) dX10_setPrice_15 (by first | rfl | decide) ?_
    refine M_put (pc := 16) hS fl_X10_72 fw_9_25 rfl dX10_setPrice_16 ?_
    refine G_aload_n (pc := 19) dX10_setPrice_19 rfl ?_
    refine M_get (pc := 20) hS fl_X10_72 rfl dX10_setPrice_20 ?_
    show G _ _ _ _ _ _ _ (.int (nI 1) :: _) _
    refine G_if_leN (pc := 23) (tgt := 28) (by omega) dX10_setPrice_23 (by decide) (fun h => absurd h (by decide)) (fun _ => ?_)
    refine G_iconst (pc := 26) (v := nI 0) dX10_setPrice_26 (by first | rfl | decide) ?_
    refine G_iret (pc := 27) VZ.n dX10_setPrice_27 rfl ⟨by decide, by decide⟩ ?_
    first | (rw [show mSetPrice F x = _ from if_pos ‹_›]; exact ⟨rfl, rfl⟩) | (rw [show mSetPrice F x = _ from if_neg ‹_›]; exact ⟨rfl, rfl⟩)
  · skip
    refine G_iconst (pc := 11) (v := nI 0) dX10_setPrice_11 (by first | rfl | decide) ?_
    refine G_goto (pc := 12) (tgt := 16) dX10_setPrice_12 (by decide) ?_
    refine M_put (pc := 16) hS fl_X10_72 fw_9_25 rfl dX10_setPrice_16 ?_
    refine G_aload_n (pc := 19) dX10_setPrice_19 rfl ?_
    refine M_get (pc := 20) hS fl_X10_72 rfl dX10_setPrice_20 ?_
    show G _ _ _ _ _ _ _ (.int (nI 0) :: _) _
    refine G_if_leN (pc := 23) (tgt := 28) (by omega) dX10_setPrice_23 (by decide) (fun _ => ?_) (fun h => absurd h (by decide))
    refine G_aload_n (pc := 28) dX10_setPrice_28 rfl ?_
    refine M_get (pc := 29) hS fl_X10_7 rfl dX10_setPrice_29 ?_
    refine G_istore_n (pc := 32) dX10_setPrice_32 (by decide) ?_
    refine G_aload_n (pc := 33) dX10_setPrice_33 rfl ?_
    refine G_iload_n (pc := 34) dX10_setPrice_34 rfl ?_
    refine M_put (pc := 35) hS fl_X10_7 fw_9_1 rfl dX10_setPrice_35 ?_
    refine G_iload_n (pc := 38) dX10_setPrice_38 rfl ?_
    refine G_iret (pc := 39) VZ.n dX10_setPrice_39 rfl ⟨by decide, by decide⟩ ?_
    first | (rw [show mSetPrice F x = _ from if_pos ‹_›]; exact ⟨rfl, rfl⟩) | (rw [show mSetPrice F x = _ from if_neg ‹_›]; exact ⟨rfl, rfl⟩)
theorem C_tableOf {Γ : GTy} {Y : HS} (hS : MS Y) (F : FT) (c : Nat) : Tn Γ M_X10_tableOf [.ref 900000, .int (nI c)] (wM Y F) (rt (some (.int (lastW (fun k => F 103 k = nI (c + 1)) 4))) (wM Y F)) := by
  refine Tn_of' rfl rfl rfl ?_
  show G Γ M_X10_tableOf (rm M_X10_tableOf) (Vn Γ M_X10_tableOf (rt (some (.int (lastW (fun k => F 103 k = nI (c + 1)) 4))) (wM Y F))) (0, 0) 0 [some (.ref 900000), some (.int (nI c)), none, none] [] (wM Y F)
  have loop : ∀ (n j : Nat), j + n = 4 → G Γ M_X10_tableOf (rm M_X10_tableOf) (Vn Γ M_X10_tableOf (rt (some (.int (lastW (fun k => F 103 k = nI (c + 1)) 4))) (wM Y F))) (0, 0) 4 [some (.ref 900000), some (.int (nI c)), some (.int (lastW (fun k => F 103 k = nI (c + 1)) j)), some (.int (nI j))] [] (wM Y F) := by
    intro n
    induction n with
    | zero =>
      intro j hj
      obtain rfl : j = 4 := by omega
      refine G_iload_n (pc := 4) dX10_tableOf_4 rfl ?_
      refine G_iconst (pc := 5) (v := nI 4) dX10_tableOf_5 (by first | rfl | decide) ?_
      refine G_icmp_geN (pc := 6) (tgt := 33) (by omega) (by omega) dX10_tableOf_6 (by decide) (fun c6 => ?_) (fun c6 => ?_)
      · skip
        refine G_iload_n (pc := 33) dX10_tableOf_33 rfl ?_
        refine G_iret (pc := 34) VZ.n dX10_tableOf_34 rfl ⟨by decide, by decide⟩ ?_
        exact ⟨rfl, rfl⟩
      · omega
    | succ n ih =>
      intro j hj
      have hj9 : j < 4 := by omega
      refine G_iload_n (pc := 4) dX10_tableOf_4 rfl ?_
      refine G_iconst (pc := 5) (v := nI 4) dX10_tableOf_5 (by first | rfl | decide) ?_
      refine G_icmp_geN (pc := 6) (tgt := 33) (by omega) (by omega) dX10_tableOf_6 (by decide) (fun c6 => ?_) (fun c6 => ?_)
      · omega
      · skip
        refine G_aload_n (pc := 9) dX10_tableOf_9 rfl ?_
        refine M_arr (pc := 10) (a := 1900103) hS fl_X10_17 rfl rfl dX10_tableOf_10 ?_
        refine G_iload_n (pc := 13) dX10_tableOf_13 rfl ?_
        refine M_ld (pc := 14) (kk := 3) (j := j) hS rfl rfl rfl (by simp only [ml9]; omega) dX10_tableOf_14 ?_
        refine G_iload_n (pc := 15) dX10_tableOf_15 rfl ?_
        refine G_iconst (pc := 16) (v := nI 1) dX10_tableOf_16 (by first | rfl | decide) ?_
        refine G_iaddN (pc := 17) dX10_tableOf_17 ?_
        refine G_icmp_ne (pc := 18) (tgt := 25) dX10_tableOf_18 (by decide) (fun c18 => ?_) (fun c18 => ?_)
        · skip
          refine G_iload_n (pc := 25) dX10_tableOf_25 rfl ?_
          refine G_istore_n (pc := 26) dX10_tableOf_26 (by decide) ?_
          refine G_iincN (pc := 27) dX10_tableOf_27 rfl (by decide) ?_
          refine G_goto (pc := 30) (tgt := 4) dX10_tableOf_30 (by decide) ?_
          have h9 := ih (j + 1) (by omega)
          simp only [lastW, c18, ↓reduceIte] at h9
          exact h9
        · skip
          refine G_iload_n (pc := 21) dX10_tableOf_21 rfl ?_
          refine G_goto (pc := 22) (tgt := 26) dX10_tableOf_22 (by decide) ?_
          refine G_istore_n (pc := 26) dX10_tableOf_26 (by decide) ?_
          refine G_iincN (pc := 27) dX10_tableOf_27 rfl (by decide) ?_
          refine G_goto (pc := 30) (tgt := 4) dX10_tableOf_30 (by decide) ?_
          have h9 := ih (j + 1) (by omega)
          simp only [lastW, c18, ↓reduceIte] at h9
          exact h9
  refine G_iconst (pc := 0) (v := -1) dX10_tableOf_0 (by first | rfl | decide) ?_
  refine G_istore_n (pc := 1) dX10_tableOf_1 (by decide) ?_
  refine G_iconst (pc := 2) (v := nI 0) dX10_tableOf_2 (by first | rfl | decide) ?_
  refine G_istore_n (pc := 3) dX10_tableOf_3 (by decide) ?_
  exact loop 4 0 rfl
theorem C_cueWith {Γ : GTy} {Y : HS} (hS : MS Y) (F : FT) (c : Nat) : Tn Γ M_X10_cueWith [.ref 900000, .int (nI c)] (wM Y F) (rt (some (.int (lastW (fun k => F 107 k = nI (c + 1)) 6))) (wM Y F)) := by
  refine Tn_of' rfl rfl rfl ?_
  show G Γ M_X10_cueWith (rm M_X10_cueWith) (Vn Γ M_X10_cueWith (rt (some (.int (lastW (fun k => F 107 k = nI (c + 1)) 6))) (wM Y F))) (0, 0) 0 [some (.ref 900000), some (.int (nI c)), none, none] [] (wM Y F)
  have loop : ∀ (n j : Nat), j + n = 6 → G Γ M_X10_cueWith (rm M_X10_cueWith) (Vn Γ M_X10_cueWith (rt (some (.int (lastW (fun k => F 107 k = nI (c + 1)) 6))) (wM Y F))) (0, 0) 4 [some (.ref 900000), some (.int (nI c)), some (.int (lastW (fun k => F 107 k = nI (c + 1)) j)), some (.int (nI j))] [] (wM Y F) := by
    intro n
    induction n with
    | zero =>
      intro j hj
      obtain rfl : j = 6 := by omega
      refine G_iload_n (pc := 4) dX10_cueWith_4 rfl ?_
      refine G_bipush (pc := 5) (v := nI 6) dX10_cueWith_5 (by first | rfl | decide) ?_
      refine G_icmp_geN (pc := 7) (tgt := 34) (by omega) (by omega) dX10_cueWith_7 (by decide) (fun c7 => ?_) (fun c7 => ?_)
      · skip
        refine G_iload_n (pc := 34) dX10_cueWith_34 rfl ?_
        refine G_iret (pc := 35) VZ.n dX10_cueWith_35 rfl ⟨by decide, by decide⟩ ?_
        exact ⟨rfl, rfl⟩
      · omega
    | succ n ih =>
      intro j hj
      have hj9 : j < 6 := by omega
      refine G_iload_n (pc := 4) dX10_cueWith_4 rfl ?_
      refine G_bipush (pc := 5) (v := nI 6) dX10_cueWith_5 (by first | rfl | decide) ?_
      refine G_icmp_geN (pc := 7) (tgt := 34) (by omega) (by omega) dX10_cueWith_7 (by decide) (fun c7 => ?_) (fun c7 => ?_)
      · omega
      · skip
        refine G_aload_n (pc := 10) dX10_cueWith_10 rfl ?_
        refine M_arr (pc := 11) (a := 1900107) hS fl_X10_30 rfl rfl dX10_cueWith_11 ?_
        refine G_iload_n (pc := 14) dX10_cueWith_14 rfl ?_
        refine M_ld (pc := 15) (kk := 7) (j := j) hS rfl rfl rfl (by simp only [ml9]; omega) dX10_cueWith_15 ?_
        refine G_iload_n (pc := 16) dX10_cueWith_16 rfl ?_
        refine G_iconst (pc := 17) (v := nI 1) dX10_cueWith_17 (by first | rfl | decide) ?_
        refine G_iaddN (pc := 18) dX10_cueWith_18 ?_
        refine G_icmp_ne (pc := 19) (tgt := 26) dX10_cueWith_19 (by decide) (fun c19 => ?_) (fun c19 => ?_)
        · skip
          refine G_iload_n (pc := 26) dX10_cueWith_26 rfl ?_
          refine G_istore_n (pc := 27) dX10_cueWith_27 (by decide) ?_
          refine G_iincN (pc := 28) dX10_cueWith_28 rfl (by decide) ?_
          refine G_goto (pc := 31) (tgt := 4) dX10_cueWith_31 (by decide) ?_
          have h9 := ih (j + 1) (by omega)
          simp only [lastW, c19, ↓reduceIte] at h9
          exact h9
        · skip
          refine G_iload_n (pc := 22) dX10_cueWith_22 rfl ?_
          refine G_goto (pc := 23) (tgt := 27) dX10_cueWith_23 (by decide) ?_
          refine G_istore_n (pc := 27) dX10_cueWith_27 (by decide) ?_
          refine G_iincN (pc := 28) dX10_cueWith_28 rfl (by decide) ?_
          refine G_goto (pc := 31) (tgt := 4) dX10_cueWith_31 (by decide) ?_
          have h9 := ih (j + 1) (by omega)
          simp only [lastW, c19, ↓reduceIte] at h9
          exact h9
  refine G_iconst (pc := 0) (v := -1) dX10_cueWith_0 (by first | rfl | decide) ?_
  refine G_istore_n (pc := 1) dX10_cueWith_1 (by decide) ?_
  refine G_iconst (pc := 2) (v := nI 0) dX10_cueWith_2 (by first | rfl | decide) ?_
  refine G_istore_n (pc := 3) dX10_cueWith_3 (by decide) ?_
  exact loop 6 0 rfl
