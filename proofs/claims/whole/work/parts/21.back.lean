-- ===== the model: balls that come back; what the white one sees =====
theorem php : ∀ (n : Nat) (f : Nat → Nat), (∀ i, i ≤ n → f i < n) → ∃ i j, i < j ∧ j ≤ n ∧ f i = f j
  | 0, f, h => absurd (h 0 (Nat.le_refl 0)) (Nat.not_lt_zero _)
  | n + 1, f, h => by
    by_cases e : ∃ i, i ≤ n ∧ f i = f (n + 1)
    · obtain ⟨i, hi, e⟩ := e
      exact ⟨i, n + 1, by omega, Nat.le_refl _, e⟩
    · have ne : ∀ i, i ≤ n → f i ≠ f (n + 1) := fun i hi q => e ⟨i, hi, q⟩
      have hv := h (n + 1) (Nat.le_refl _)
      obtain ⟨i, j, h1, h2, h3⟩ := php n (fun i => if f i = n then f (n + 1) else f i) (fun i hi => by
        have := h i (by omega)
        have := ne i hi
        show (if f i = n then f (n + 1) else f i) < n
        split <;> omega)
      have ei := ne i (by omega)
      have ej := ne j h2
      have h4 : (if f i = n then f (n + 1) else f i) = (if f j = n then f (n + 1) else f j) := h3
      refine ⟨i, j, h1, by omega, ?_⟩
      split at h4 <;> split at h4 <;> omega
/-- of nine cells one is empty -/
theorem free_ex (F : FT) : ∃ x, x < 15 ∧ ¬ pkN x ∧ mIn F (nI x) = -1 := by
  apply Decidable.byContradiction
  intro hn
  have occ : ∀ x, x < 15 → ¬ pkN x → ∃ k, k < 8 ∧ F 119 k = nI x := by
    intro x hx hp
    rcases lastW_spec (fun k => F 119 k = nI x) 8 with ⟨h1, -⟩ | ⟨j, h1, h2, -, -⟩
    · exact absurd ⟨x, hx, hp, h1⟩ hn
    · exact ⟨j, h1, h2⟩
  let g : Nat → Nat := fun i => if i < 6 then i + 1 else i + 2
  have hg : ∀ i, i ≤ 8 → g i < 15 ∧ ¬ pkN (g i) := by
    intro i hi
    show (if i < 6 then i + 1 else i + 2) < 15 ∧ ¬ pkN (if i < 6 then i + 1 else i + 2)
    split
    · exact ⟨by omega, by unfold pkN; omega⟩
    · exact ⟨by omega, by unfold pkN; omega⟩
  have ch : ∀ i, ∃ k, i ≤ 8 → k < 8 ∧ F 119 k = nI (g i) := by
    intro i
    by_cases hi : i ≤ 8
    · obtain ⟨k, h1, h2⟩ := occ (g i) (hg i hi).1 (hg i hi).2
      exact ⟨k, fun _ => ⟨h1, h2⟩⟩
    · exact ⟨0, fun h => absurd h hi⟩
  obtain ⟨f, hf⟩ := Classical.axiomOfChoice ch
  obtain ⟨i, j, h1, h2, h3⟩ := php 8 f (fun i hi => (hf i hi).1)
  have a := (hf i (by omega)).2
  have b := (hf j h2).2
  rw [h3, b] at a
  have e := (nI_eq (by have := (hg j h2).1; omega) (by have := (hg i (by omega)).1; omega)).mp a
  have e2 : (if j < 6 then j + 1 else j + 2) = (if i < 6 then i + 1 else i + 2) := e
  split at e2 <;> split at e2 <;> omega
def firstN (p : Nat → Prop) [DecidablePred p] : Nat → Nat → Nat
  | 0, j => j
  | n + 1, j => if p j then j else firstN p n (j + 1)
theorem firstN_spec (p : Nat → Prop) [DecidablePred p] : ∀ (n j x : Nat), j ≤ x → x < j + n → p x → ∃ y, firstN p n j = y ∧ j ≤ y ∧ y ≤ x ∧ p y ∧ ∀ i, j ≤ i → i < y → ¬ p i
  | 0, j, x, h1, h2, _ => absurd h2 (by omega)
  | n + 1, j, x, h1, h2, hx => by
    by_cases hp : p j
    · exact ⟨j, if_pos hp, Nat.le_refl j, h1, hp, fun i g1 g2 => absurd g1 (by omega)⟩
    · have h3 : j + 1 ≤ x := by
        rcases Nat.lt_or_ge j x with h | h
        · exact h
        · exact absurd (show p j from (show x = j by omega) ▸ hx) hp
      obtain ⟨y, e1, e2, e3, e4, e5⟩ := firstN_spec p n (j + 1) x h3 (by omega) hx
      refine ⟨y, (if_neg hp).trans e1, by omega, e3, e4, fun i g1 g2 => ?_⟩
      by_cases e : i = j
      · subst e; exact hp
      · exact e5 i (by omega) g2
abbrev fre (F : FT) (x : Nat) : Prop := ¬ pkN x ∧ mIn F (nI x) = -1
/-- the cell to which ball k comes back -/
def cbC (F : FT) (k : Nat) : Nat := if mIn F (nI (spN k)) = -1 then spN k else firstN (fre F) 128 0
def cbF (F : FT) (f k : Nat) : FT := u2 (u2 F 119 k (nI (cbC F k))) 118 (8 * f + k) (nI (cbC F k))
theorem spN_lt (k : Nat) : spN k < 128 := by unfold spN; split <;> decide
theorem mIn_nn {F : FT} {x : Int32} (h : ¬ mIn F x = -1) : ∃ j, j < 8 ∧ mIn F x = nI j := by
  rcases lastW_spec (fun k => F 119 k = x) 8 with ⟨h1, -⟩ | ⟨j, h1, -, h3, -⟩
  · exact absurd h1 h
  · exact ⟨j, h1, h3⟩
theorem cbC_spec (F : FT) (k : Nat) : cbC F k < 128 ∧ mIn F (nI (cbC F k)) = -1 := by
  unfold cbC
  split
  · next h => exact ⟨spN_lt k, h⟩
  · obtain ⟨x, h1, h2, h3⟩ := free_ex F
    obtain ⟨y, e1, e2, e3, e4, -⟩ := firstN_spec (fre F) 128 0 x (Nat.zero_le x) (by omega) ⟨h2, h3⟩
    rw [e1]
    exact ⟨by omega, e4.2⟩
theorem C_comesBack0 {Γ : GTy} {Y : HS} (hS : MS Y) (F : FT) {f k : Nat} (hf : f < 20) (hk : k < 8) (hs : mIn F (nI (spN k)) = -1) : Tn Γ M_X10_comesBack [.ref 900000, .int (nI f), .int (nI k)] (wM Y F) (rt none (wM Y (u2 (u2 F 119 k (nI (spN k))) 118 (8 * f + k) (nI (spN k))))) := by
  refine Tn_of' rfl rfl rfl ?_
  show G Γ M_X10_comesBack (rm M_X10_comesBack) (Vn Γ M_X10_comesBack (rt none (wM Y (u2 (u2 F 119 k (nI (spN k))) 118 (8 * f + k) (nI (spN k)))))) (0, 0) 0 [some (.ref 900000), some (.int (nI f)), some (.int (nI k)), none, none] [] (wM Y F)
  refine G_iload_n (pc := 0) dX10_comesBack_0 rfl ?_
  refine K_Sn1r (pc := 1) (k' := (0, 0)) mok_X10_spot lk_X10_110 rfl (aok0 rfl) dX10_comesBack_1 (C_spot hk _) rfl ?_
  refine G_istore_n (pc := 4) dX10_comesBack_4 (by decide) ?_
  refine G_iconst (pc := 5) (v := nI 0) dX10_comesBack_5 (by first | rfl | decide) ?_
  refine G_istore (pc := 6) dX10_comesBack_6 (by decide) ?_
  refine G_aload_n (pc := 8) dX10_comesBack_8 rfl ?_
  refine G_iload_n (pc := 9) dX10_comesBack_9 rfl ?_
  refine K_Vn1r (pc := 10) (k' := (0, 0)) mok_X10_inCell lk_X10_119 hS.1 rfl rfl rfl (aok0 rfl) dX10_comesBack_10 (C_inCell hS _ _) rfl ?_
  rw [hs]
  refine G_if_lt (pc := 13) (tgt := 46) dX10_comesBack_13 (by decide) (fun _ => ?_) (fun h => absurd h (by decide))
  refine G_aload_n (pc := 46) dX10_comesBack_46 rfl ?_
  refine M_arr (pc := 47) (a := 1900119) hS fl_X10_63 rfl rfl dX10_comesBack_47 ?_
  refine G_iload_n (pc := 50) dX10_comesBack_50 rfl ?_
  refine G_iload_n (pc := 51) dX10_comesBack_51 rfl ?_
  refine M_st (pc := 52) (kk := 19) (j := k) hS rfl rfl rfl hk dX10_comesBack_52 ?_
  refine G_aload_n (pc := 53) dX10_comesBack_53 rfl ?_
  refine M_arr (pc := 54) (a := 1900118) hS fl_X10_60 rfl rfl dX10_comesBack_54 ?_
  refine G_bipush (pc := 57) (v := nI 8) dX10_comesBack_57 (by first | rfl | decide) ?_
  refine G_iload_n (pc := 59) dX10_comesBack_59 rfl ?_
  refine G_imulN (pc := 60) dX10_comesBack_60 ?_
  refine G_iload_n (pc := 61) dX10_comesBack_61 rfl ?_
  refine G_iaddN (pc := 62) dX10_comesBack_62 ?_
  refine G_iload_n (pc := 63) dX10_comesBack_63 rfl ?_
  refine M_st (pc := 64) (kk := 18) (j := 8 * f + k) hS rfl rfl rfl (show 8 * f + k < 160 by omega) dX10_comesBack_64 ?_
  refine G_vret (pc := 65) VZ.n dX10_comesBack_65 rfl ⟨by decide, by decide⟩ ?_
  exact ⟨rfl, rfl⟩
theorem C_comesBack1 {Γ : GTy} {Y : HS} (hS : MS Y) (F : FT) {f k : Nat} (hf : f < 20) (hk : k < 8) {s e : Nat} (s8 : s < 8) (hs : mIn F (nI (spN k)) = nI s) (e128 : e < 128) (hp : ¬ pkN e) (he : mIn F (nI e) = -1) (hq : ∀ j, j < e → ¬ pkN j → ¬ mIn F (nI j) = -1) : Tn Γ M_X10_comesBack [.ref 900000, .int (nI f), .int (nI k)] (wM Y F) (rt none (wM Y (u2 (u2 F 119 k (nI e)) 118 (8 * f + k) (nI e)))) := by
  refine Tn_of' rfl rfl rfl ?_
  show G Γ M_X10_comesBack (rm M_X10_comesBack) (Vn Γ M_X10_comesBack (rt none (wM Y (u2 (u2 F 119 k (nI e)) 118 (8 * f + k) (nI e))))) (0, 0) 0 [some (.ref 900000), some (.int (nI f)), some (.int (nI k)), none, none] [] (wM Y F)
  have fin9 : ∀ j : Nat, G Γ M_X10_comesBack (rm M_X10_comesBack) (Vn Γ M_X10_comesBack (rt none (wM Y (u2 (u2 F 119 k (nI e)) 118 (8 * f + k) (nI e))))) (0, 0) 8 [some (.ref 900000), some (.int (nI f)), some (.int (nI k)), some (.int (nI e)), some (.int (nI j))] [] (wM Y F) := by
    intro j
    refine G_aload_n (pc := 8) dX10_comesBack_8 rfl ?_
    refine G_iload_n (pc := 9) dX10_comesBack_9 rfl ?_
    refine K_Vn1r (pc := 10) (k' := (0, 0)) mok_X10_inCell lk_X10_119 hS.1 rfl rfl rfl (aok0 rfl) dX10_comesBack_10 (C_inCell hS _ _) rfl ?_
    rw [he]
    refine G_if_lt (pc := 13) (tgt := 46) dX10_comesBack_13 (by decide) (fun _ => ?_) (fun h => absurd h (by decide))
    refine G_aload_n (pc := 46) dX10_comesBack_46 rfl ?_
    refine M_arr (pc := 47) (a := 1900119) hS fl_X10_63 rfl rfl dX10_comesBack_47 ?_
    refine G_iload_n (pc := 50) dX10_comesBack_50 rfl ?_
    refine G_iload_n (pc := 51) dX10_comesBack_51 rfl ?_
    refine M_st (pc := 52) (kk := 19) (j := k) hS rfl rfl rfl hk dX10_comesBack_52 ?_
    refine G_aload_n (pc := 53) dX10_comesBack_53 rfl ?_
    refine M_arr (pc := 54) (a := 1900118) hS fl_X10_60 rfl rfl dX10_comesBack_54 ?_
    refine G_bipush (pc := 57) (v := nI 8) dX10_comesBack_57 (by first | rfl | decide) ?_
    refine G_iload_n (pc := 59) dX10_comesBack_59 rfl ?_
    refine G_imulN (pc := 60) dX10_comesBack_60 ?_
    refine G_iload_n (pc := 61) dX10_comesBack_61 rfl ?_
    refine G_iaddN (pc := 62) dX10_comesBack_62 ?_
    refine G_iload_n (pc := 63) dX10_comesBack_63 rfl ?_
    refine M_st (pc := 64) (kk := 18) (j := 8 * f + k) hS rfl rfl rfl (show 8 * f + k < 160 by omega) dX10_comesBack_64 ?_
    refine G_vret (pc := 65) VZ.n dX10_comesBack_65 rfl ⟨by decide, by decide⟩ ?_
    exact ⟨rfl, rfl⟩
  have loop : ∀ (n9 j : Nat), j + n9 = e → G Γ M_X10_comesBack (rm M_X10_comesBack) (Vn Γ M_X10_comesBack (rt none (wM Y (u2 (u2 F 119 k (nI e)) 118 (8 * f + k) (nI e))))) (0, 0) 8 [some (.ref 900000), some (.int (nI f)), some (.int (nI k)), some (.int (nI (spN k))), some (.int (nI j))] [] (wM Y F) := by
    intro n9
    induction n9 with
    | zero =>
      intro j hj
      have hj8 : j = e := by omega
      rw [hj8]
      refine G_aload_n (pc := 8) dX10_comesBack_8 rfl ?_
      refine G_iload_n (pc := 9) dX10_comesBack_9 rfl ?_
      refine K_Vn1r (pc := 10) (k' := (0, 0)) mok_X10_inCell lk_X10_119 hS.1 rfl rfl rfl (aok0 rfl) dX10_comesBack_10 (C_inCell hS _ _) rfl ?_
      rw [hs]
      refine G_if_ltN (pc := 13) (tgt := 46) (by omega) dX10_comesBack_13 (by decide) (fun c13 => ?_) (fun c13 => ?_)
      · omega
      · skip
        refine G_iload (pc := 16) dX10_comesBack_16 rfl ?_
        refine K_Sn1r (pc := 18) (k' := (0, 0)) mok_X10_isPocket lk_X10_128 rfl (aok0 rfl) dX10_comesBack_18 (C_pocketM (by omega) _) rfl ?_
        refine G_if_neB (pc := 21) (tgt := 33) dX10_comesBack_21 (by decide) (fun c21 => ?_) (fun c21 => ?_)
        · exact absurd c21 hp
        · skip
          refine G_aload_n (pc := 24) dX10_comesBack_24 rfl ?_
          refine G_iload (pc := 25) dX10_comesBack_25 rfl ?_
          refine K_Vn1r (pc := 27) (k' := (0, 0)) mok_X10_inCell lk_X10_119 hS.1 rfl rfl rfl (aok0 rfl) dX10_comesBack_27 (C_inCell hS _ _) rfl ?_
          rw [he]
          refine G_if_lt (pc := 30) (tgt := 37) dX10_comesBack_30 (by decide) (fun _ => ?_) (fun h => absurd h (by decide))
          refine G_iload (pc := 37) dX10_comesBack_37 rfl ?_
          refine G_istore_n (pc := 39) dX10_comesBack_39 (by decide) ?_
          refine G_iincN (pc := 40) dX10_comesBack_40 rfl (by decide) ?_
          refine G_goto (pc := 43) (tgt := 8) dX10_comesBack_43 (by decide) ?_
          exact fin9 _
    | succ n9 ih =>
      intro j hj
      have hj9 : j < e := by omega
      refine G_aload_n (pc := 8) dX10_comesBack_8 rfl ?_
      refine G_iload_n (pc := 9) dX10_comesBack_9 rfl ?_
      refine K_Vn1r (pc := 10) (k' := (0, 0)) mok_X10_inCell lk_X10_119 hS.1 rfl rfl rfl (aok0 rfl) dX10_comesBack_10 (C_inCell hS _ _) rfl ?_
      rw [hs]
      refine G_if_ltN (pc := 13) (tgt := 46) (by omega) dX10_comesBack_13 (by decide) (fun c13 => ?_) (fun c13 => ?_)
      · omega
      · skip
        refine G_iload (pc := 16) dX10_comesBack_16 rfl ?_
        refine K_Sn1r (pc := 18) (k' := (0, 0)) mok_X10_isPocket lk_X10_128 rfl (aok0 rfl) dX10_comesBack_18 (C_pocketM (by omega) _) rfl ?_
        refine G_if_neB (pc := 21) (tgt := 33) dX10_comesBack_21 (by decide) (fun c21 => ?_) (fun c21 => ?_)
        · skip
          refine G_iload_n (pc := 33) dX10_comesBack_33 rfl ?_
          refine G_goto (pc := 34) (tgt := 39) dX10_comesBack_34 (by decide) ?_
          refine G_istore_n (pc := 39) dX10_comesBack_39 (by decide) ?_
          refine G_iincN (pc := 40) dX10_comesBack_40 rfl (by decide) ?_
          refine G_goto (pc := 43) (tgt := 8) dX10_comesBack_43 (by decide) ?_
          exact ih (j + 1) (by omega)
        · skip
          refine G_aload_n (pc := 24) dX10_comesBack_24 rfl ?_
          refine G_iload (pc := 25) dX10_comesBack_25 rfl ?_
          obtain ⟨m9, m8, em⟩ := mIn_nn (hq j hj9 c21)
          refine K_Vn1r (pc := 27) (k' := (0, 0)) mok_X10_inCell lk_X10_119 hS.1 rfl rfl rfl (aok0 rfl) dX10_comesBack_27 (C_inCell hS _ _) rfl ?_
          rw [em]
          refine G_if_ltN (pc := 30) (tgt := 37) (by omega) dX10_comesBack_30 (by decide) (fun c30 => ?_) (fun c30 => ?_)
          · omega
          · skip
            refine G_iload_n (pc := 33) dX10_comesBack_33 rfl ?_
            refine G_goto (pc := 34) (tgt := 39) dX10_comesBack_34 (by decide) ?_
            refine G_istore_n (pc := 39) dX10_comesBack_39 (by decide) ?_
            refine G_iincN (pc := 40) dX10_comesBack_40 rfl (by decide) ?_
            refine G_goto (pc := 43) (tgt := 8) dX10_comesBack_43 (by decide) ?_
            exact ih (j + 1) (by omega)
  refine G_iload_n (pc := 0) dX10_comesBack_0 rfl ?_
  refine K_Sn1r (pc := 1) (k' := (0, 0)) mok_X10_spot lk_X10_110 rfl (aok0 rfl) dX10_comesBack_1 (C_spot hk _) rfl ?_
  refine G_istore_n (pc := 4) dX10_comesBack_4 (by decide) ?_
  refine G_iconst (pc := 5) (v := nI 0) dX10_comesBack_5 (by first | rfl | decide) ?_
  refine G_istore (pc := 6) dX10_comesBack_6 (by decide) ?_
  exact loop e 0 (Nat.zero_add e)
theorem C_comesBack {Γ : GTy} {Y : HS} (hS : MS Y) (F : FT) {f k : Nat} (hf : f < 20) (hk : k < 8) : Tn Γ M_X10_comesBack [.ref 900000, .int (nI f), .int (nI k)] (wM Y F) (rt none (wM Y (cbF F f k))) := by
  unfold cbF cbC
  by_cases h : mIn F (nI (spN k)) = -1
  · rw [if_pos h]
    exact C_comesBack0 hS F hf hk h
  · rw [if_neg h]
    obtain ⟨s, s8, hs⟩ := mIn_nn h
    obtain ⟨x, h1, h2, h3⟩ := free_ex F
    obtain ⟨y, e1, e2, e3, e4, e5⟩ := firstN_spec (fre F) 128 0 x (Nat.zero_le x) (by omega) ⟨h2, h3⟩
    rw [e1]
    exact C_comesBack1 hS F hf hk s8 hs (by omega) e4.1 e4.2 (fun j hj g1 g2 => e5 j (Nat.zero_le j) hj ⟨g1, g2⟩)
