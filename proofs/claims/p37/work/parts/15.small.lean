-- ===== the model: small methods =====
def lastW (p : Nat → Prop) [DecidablePred p] : Nat → Int32
  | 0 => -1
  | n + 1 => if p n then nI n else lastW p n
def cnt (p : Nat → Prop) [DecidablePred p] : Nat → Nat
  | 0 => 0
  | n + 1 => cnt p n + (if p n then 1 else 0)
theorem lastW_congr {p q : Nat → Prop} [DecidablePred p] [DecidablePred q] : ∀ {n : Nat}, (∀ j, j < n → (p j ↔ q j)) → lastW p n = lastW q n
  | 0, _ => rfl
  | n + 1, h => by
    show (if p n then nI n else lastW p n) = (if q n then nI n else lastW q n)
    rw [lastW_congr (fun j hj => h j (Nat.lt_succ_of_lt hj))]
    simp only [h n (Nat.lt_succ_self n)]
theorem lastW_spec (p : Nat → Prop) [DecidablePred p] : ∀ n, (lastW p n = -1 ∧ ∀ j, j < n → ¬ p j) ∨ ∃ j, j < n ∧ p j ∧ lastW p n = nI j ∧ ∀ i, j < i → i < n → ¬ p i
  | 0 => Or.inl ⟨rfl, fun _ h => absurd h (Nat.not_lt_zero _)⟩
  | n + 1 => by
    show ((if p n then nI n else lastW p n) = -1 ∧ _) ∨ ∃ j, j < n + 1 ∧ p j ∧ (if p n then nI n else lastW p n) = nI j ∧ _
    by_cases h : p n
    · exact Or.inr ⟨n, Nat.lt_succ_self n, h, if_pos h, fun i h1 h2 => absurd h1 (by omega)⟩
    · rw [if_neg h]
      rcases lastW_spec p n with ⟨h1, h2⟩ | ⟨j, h1, h2, h3, h4⟩
      · exact Or.inl ⟨h1, fun j hj => by by_cases e : j = n; (subst e; exact h); exact h2 j (by omega)⟩
      · exact Or.inr ⟨j, Nat.lt_succ_of_lt h1, h2, h3, fun i g1 g2 => by by_cases e : i = n; (subst e; exact h); exact h4 i g1 (by omega)⟩
theorem cnt_le (p : Nat → Prop) [DecidablePred p] : ∀ n, cnt p n ≤ n
  | 0 => Nat.le_refl _
  | n + 1 => by
    have := cnt_le p n
    show cnt p n + (if p n then 1 else 0) ≤ n + 1
    split <;> omega
theorem cnt_congr {p q : Nat → Prop} [DecidablePred p] [DecidablePred q] : ∀ {n : Nat}, (∀ j, j < n → (p j ↔ q j)) → cnt p n = cnt q n
  | 0, _ => rfl
  | n + 1, h => by
    show cnt p n + (if p n then 1 else 0) = cnt q n + (if q n then 1 else 0)
    rw [cnt_congr (fun j hj => h j (Nat.lt_succ_of_lt hj))]
    simp only [h n (Nat.lt_succ_self n)]
theorem inN {a n : Nat} (h : a ≤ n) (hn : n < 2 ^ 31) : nI 0 ≤ nI a ∧ nI a ≤ nI n := ⟨nI_le (Nat.zero_le _) (by omega), nI_le h hn⟩
/-- thrown -/
def thr (F : FT) (v : Int32) : FT := u2 F 25 0 v
def spN : Nat → Nat := fun j => match j with
  | 0 => 67
  | 1 => 74
  | 2 => 59
  | 3 => 91
  | 4 => 44
  | 5 => 76
  | 6 => 108
  | _ => 77
abbrev pkN (c : Nat) : Prop := (c / 16 = 0 ∨ c / 16 = 7) ∧ (c % 16 = 0 ∨ c % 16 = 7 ∨ c % 16 = 15)
def mSetPrice (F : FT) (x : Int32) : Int32 × FT := if nI 0 ≤ x ∧ x ≤ nI 50 then (F 1 0, u2 (thr F (nI 0)) 1 0 x) else (nI 0, thr F (nI 1))
