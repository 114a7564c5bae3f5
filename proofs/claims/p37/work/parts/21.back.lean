-- ===== the model: balls that come back; what the white one sees =====
theorem php : ∀ (n : Nat) (f : Nat → Nat), (∀ i, i ≤ n → f i < n) → ∃ i j, i < j ∧ j ≤ n ∧ f i = f j
  | 0, f, h => absurd (h 0 (Nat.le_refl 0)) (Nat.not_lt_zero _)
  | n + 1, f, h => by
    by_cases e : ∃ i, i ≤ n ∧ f i = f (n + 1)
    · obtain ⟨i, hi, e⟩ := e
      exact ⟨i, n + 1, by omega, Nat.le_refl _, e⟩
    · have ne : ∀ i, i ≤ n → f i ≠ f (n + 1) := fun i hi q => e ⟨i, hi, q⟩
      have hv := h (n + 1) (Nat.le_refl _)
      obtain ⟨i, j, h1, h2, h3⟩ := php n (fun i => if f i = n then f (n + 1) else f i) (fun i hi => by
        have := h i (by omega)
        have := ne i hi
        show (if f i = n then f (n + 1) else f i) < n
        split <;> omega)
      have ei := ne i (by omega)
      have ej := ne j h2
      have h4 : (if f i = n then f (n + 1) else f i) = (if f j = n then f (n + 1) else f j) := h3
      refine ⟨i, j, h1, by omega, ?_⟩
      split at h4 <;> split at h4 <;> omega
/-- of nine cells one is empty -/
theorem free_ex (F : FT) : ∃ x, x < 15 ∧ ¬ pkN x ∧ mIn F (nI x) = -1 := by
  apply Decidable.byContradiction
  intro hn
  have occ : ∀ x, x < 15 → ¬ pkN x → ∃ k, k < 8 ∧ F 119 k = nI x := by
    intro x hx hp
    rcases lastW_spec (fun k => F 119 k = nI x) 8 with ⟨h1, -⟩ | ⟨j, h1, h2, -, -⟩
    · exact absurd ⟨x, hx, hp, h1⟩ hn
    · exact ⟨j, h1, h2⟩
  let g : Nat → Nat := fun i => if i < 6 then i + 1 else i + 2
  have hg : ∀ i, i ≤ 8 → g i < 15 ∧ ¬ pkN (g i) := by
    intro i hi
    show (if i < 6 then i + 1 else i + 2) < 15 ∧ ¬ pkN (if i < 6 then i + 1 else i + 2)
    split
    · exact ⟨by omega, by unfold pkN; omega⟩
    · exact ⟨by omega, by unfold pkN; omega⟩
  have ch : ∀ i, ∃ k, i ≤ 8 → k < 8 ∧ F 119 k = nI (g i) := by
    intro i
    by_cases hi : i ≤ 8
    · obtain ⟨k, h1, h2⟩ := occ (g i) (hg i hi).1 (hg i hi).2
      exact ⟨k, fun _ => ⟨h1, h2⟩⟩
    · exact ⟨0, fun h => absurd h hi⟩
  obtain ⟨f, hf⟩ := Classical.axiomOfChoice ch
  obtain ⟨i, j, h1, h2, h3⟩ := php 8 f (fun i hi => (hf i hi).1)
  have a := (hf i (by omega)).2
  have b := (hf j h2).2
  rw [h3, b] at a
  have e := (nI_eq (by have := (hg j h2).1; omega) (by have := (hg i (by omega)).1; omega)).mp a
  have e2 : (if j < 6 then j + 1 else j + 2) = (if i < 6 then i + 1 else i + 2) := e
  split at e2 <;> split at e2 <;> omega
def firstN (p : Nat → Prop) [DecidablePred p] : Nat → Nat → Nat
  | 0, j => j
  | n + 1, j => if p j then j else firstN p n (j + 1)
theorem firstN_spec (p : Nat → Prop) [DecidablePred p] : ∀ (n j x : Nat), j ≤ x → x < j + n → p x → ∃ y, firstN p n j = y ∧ j ≤ y ∧ y ≤ x ∧ p y ∧ ∀ i, j ≤ i → i < y → ¬ p i
  | 0, j, x, h1, h2, _ => absurd h2 (by omega)
  | n + 1, j, x, h1, h2, hx => by
    by_cases hp : p j
    · exact ⟨j, if_pos hp, Nat.le_refl j, h1, hp, fun i g1 g2 => absurd g1 (by omega)⟩
    · have h3 : j + 1 ≤ x := by
        rcases Nat.lt_or_ge j x with h | h
        · exact h
        · exact absurd (show p j from (show x = j by omega) ▸ hx) hp
      obtain ⟨y, e1, e2, e3, e4, e5⟩ := firstN_spec p n (j + 1) x h3 (by omega) hx
      refine ⟨y, (if_neg hp).trans e1, by omega, e3, e4, fun i g1 g2 => ?_⟩
      by_cases e : i = j
      · subst e; exact hp
      · exact e5 i (by omega) g2
abbrev fre (F : FT) (x : Nat) : Prop := ¬ pkN x ∧ mIn F (nI x) = -1
/-- the cell to which ball k comes back -/
def cbC (F : FT) (k : Nat) : Nat := if mIn F (nI (spN k)) = -1 then spN k else firstN (fre F) 128 0
def cbF (F : FT) (f k : Nat) : FT := u2 (u2 F 119 k (nI (cbC F k))) 118 (8 * f + k) (nI (cbC F k))
theorem spN_lt (k : Nat) : spN k < 128 := by unfold spN; split <;> decide
theorem mIn_nn {F : FT} {x : Int32} (h : ¬ mIn F x = -1) : ∃ j, j < 8 ∧ mIn F x = nI j := by
  rcases lastW_spec (fun k => F 119 k = x) 8 with ⟨h1, -⟩ | ⟨j, h1, -, h3, -⟩
  · exact absurd h1 h
  · exact ⟨j, h1, h3⟩
theorem cbC_spec (F : FT) (k : Nat) : cbC F k < 128 ∧ mIn F (nI (cbC F k)) = -1 := by
  unfold cbC
  split
  · next h => exact ⟨spN_lt k, h⟩
  · obtain ⟨x, h1, h2, h3⟩ := free_ex F
    obtain ⟨y, e1, e2, e3, e4, -⟩ := firstN_spec (fre F) 128 0 x (Nat.zero_le x) (by omega) ⟨h2, h3⟩
    rw [e1]
    exact ⟨by omega, e4.2⟩
