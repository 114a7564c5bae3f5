-- ===== the model: meetings, shoot =====
def forceF (F : FT) (c : Nat) (p : Int32) : Int32 := if (lastW (fun k => F 107 k = nI (c + 1)) 6) = -1 then clip1 (nI 3 * p / nI 4) else clip1 (p * (nI 200 - F 108 (lastW (fun k => F 107 k = nI (c + 1)) 6).toNatClampNeg) / nI 200)
abbrev phys (s : Nat) : Prop := s = 119 ∨ s = 120 ∨ s = 121 ∨ s = 22 ∨ s = 23 ∨ s = 24
theorem u2_o {F : FT} {s j s' j' : Nat} {v : Int32} (h : s' ≠ s) : u2 F s j v s' j' = F s' j' := if_neg (fun g => h g.1)
theorem mRolls_o {F : FT} {b c d s j : Nat} (h : ¬ phys s) : mRolls F b c d s j = F s j := by
  have h1 : s ≠ 119 := fun e => h (Or.inl e)
  have h2 : s ≠ 120 := fun e => h (Or.inr (Or.inl e))
  have h3 : s ≠ 121 := fun e => h (Or.inr (Or.inr (Or.inl e)))
  have h4 : s ≠ 22 := fun e => h (Or.inr (Or.inr (Or.inr (Or.inl e))))
  have h5 : s ≠ 23 := fun e => h (Or.inr (Or.inr (Or.inr (Or.inr (Or.inl e)))))
  have h6 : s ≠ 24 := fun e => h (Or.inr (Or.inr (Or.inr (Or.inr (Or.inr e)))))
  unfold mRolls
  split
  · split
    · unfold mMove
      split
      · rw [u2_o h6, u2_o h1, u2_o h3, u2_o h1]
      · rw [u2_o h3, u2_o h1]
    · unfold mMeet
      rw [u2_o h4, u2_o h5, u2_o h2, u2_o h3, u2_o h3]
  · unfold mOut
    rw [u2_o h3, u2_o h2, u2_o h2]
theorem mTick_o {F : FT} {s j : Nat} (h : ¬ phys s) : ∀ i, mTick F i s j = F s j
  | 0 => rfl
  | i + 1 => by
    show mStep (mTick F i) i s j = F s j
    unfold mStep
    split
    · exact mTick_o h i
    · split
      · exact mTick_o h i
      · rw [mRolls_o h]; exact mTick_o h i
theorem mRun_o {s j : Nat} (h : ¬ phys s) : ∀ (n : Nat) (F : FT), mRun F n s j = F s j
  | 0, _ => rfl
  | n + 1, F => by
    show (if anyB (isR F) 8 = true then mRun (mTick F 8) n else F) s j = F s j
    split
    · rw [mRun_o h n]; exact mTick_o h 8
    · rfl
theorem mShot_o {F : FT} {f d s j : Nat} {p : Int32} (h : ¬ phys s) : mShot F f d p s j = F s j := by
  unfold mShot
  rw [mRun_o h]
  have h1 : s ≠ 119 := fun e => h (Or.inl e)
  have h2 : s ≠ 120 := fun e => h (Or.inr (Or.inl e))
  have h3 : s ≠ 121 := fun e => h (Or.inr (Or.inr (Or.inl e)))
  have h4 : s ≠ 22 := fun e => h (Or.inr (Or.inr (Or.inr (Or.inl e))))
  have h5 : s ≠ 23 := fun e => h (Or.inr (Or.inr (Or.inr (Or.inr (Or.inl e)))))
  have h6 : s ≠ 24 := fun e => h (Or.inr (Or.inr (Or.inr (Or.inr (Or.inr e)))))
  unfold mS0
  rw [u2_o h6, u2_o h5, u2_o h4, u2_o h3, u2_o h2]
  exact iF_o ⟨h1, h2, h3⟩
