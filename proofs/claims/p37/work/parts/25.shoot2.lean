-- ===== the model: shoot =====
def wearF (w p : Int32) : Int32 := if w + p / nI 4 + nI 1 ≤ nI 100 then w + p / nI 4 + nI 1 else nI 100
def kF (D : FT) (f i : Nat) : FT := fun s j => if s = 118 ∧ 8 * f ≤ j ∧ j < 8 * f + i then D 119 (j - 8 * f) else D s j
theorem kF_0 (D : FT) (f : Nat) : kF D f 0 = D := by
  funext s j
  exact if_neg (fun h => by omega)
theorem kF_o {D : FT} {f i s j : Nat} (h : s ≠ 118) : kF D f i s j = D s j := if_neg (fun g => h g.1)
theorem kF_s (D : FT) (f i : Nat) : u2 (kF D f i) 118 (8 * f + i) (D 119 i) = kF D f (i + 1) := by
  funext s j
  simp only [u2, kF]
  by_cases h : s = 118 ∧ j = 8 * f + i
  · obtain ⟨rfl, rfl⟩ := h
    rw [if_pos ⟨rfl, rfl⟩, if_pos ⟨rfl, by omega, by omega⟩, show 8 * f + i - 8 * f = i by omega]
  · rw [if_neg h]
    by_cases g : s = 118 ∧ 8 * f ≤ j ∧ j < 8 * f + i
    · rw [if_pos g, if_pos ⟨g.1, g.2.1, by omega⟩]
    · rw [if_neg g, if_neg (fun q => h ⟨q.1, by have := q.2.2; have := q.2.1; by_cases e : j < 8 * f + i; exact absurd ⟨q.1, q.2.1, e⟩ g; omega⟩)]
def mShE (W : FT) (f u : Nat) (on : Int32) : Int32 × FT :=
  if W 119 0 < 0 then mFouls (kF W f 8) f u on else if W 22 0 < 0 then mFouls (kF W f 8) f u on else if W 22 0 = on then mScores (kF W f 8) f u else if W 116 f = 0 then mFouls (kF W f 8) f u on else mScores (kF W f 8) f u
