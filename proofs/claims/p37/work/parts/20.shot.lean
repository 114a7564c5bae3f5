-- ===== the model: a shot =====
def PV (F : FT) : Prop := ∀ k, k < 8 → (F 119 k = -1 ∨ ∃ c, c < 128 ∧ F 119 k = nI c) ∧ ∃ d, d < 8 ∧ F 120 k = nI d
theorem PV.o {F : FT} {s j : Nat} {v : Int32} (h : PV F) (hs : s ≠ 119 ∧ s ≠ 120) : PV (u2 F s j v) := by
  intro k hk
  rw [show u2 F s j v 119 k = F 119 k from if_neg (fun g => hs.1 g.1.symm), show u2 F s j v 120 k = F 120 k from if_neg (fun g => hs.2 g.1.symm)]
  exact h k hk
theorem PV.at {F : FT} {j : Nat} {v : Int32} (h : PV F) (hv : v = -1 ∨ ∃ c, c < 128 ∧ v = nI c) : PV (u2 F 119 j v) := by
  intro k hk
  rw [show u2 F 119 j v 120 k = F 120 k from if_neg (fun g => absurd g.1 (by decide))]
  refine ⟨?_, (h k hk).2⟩
  by_cases e : k = j
  · rw [show u2 F 119 j v 119 k = v from if_pos ⟨rfl, e⟩]; exact hv
  · rw [show u2 F 119 j v 119 k = F 119 k from if_neg (fun g => e g.2)]; exact (h k hk).1
theorem PV.way {F : FT} {j d : Nat} (h : PV F) (hd : d < 8) : PV (u2 F 120 j (nI d)) := by
  intro k hk
  rw [show u2 F 120 j (nI d) 119 k = F 119 k from if_neg (fun g => absurd g.1 (by decide))]
  refine ⟨(h k hk).1, ?_⟩
  by_cases e : k = j
  · rw [show u2 F 120 j (nI d) 120 k = nI d from if_pos ⟨rfl, e⟩]; exact ⟨d, hd, rfl⟩
  · rw [show u2 F 120 j (nI d) 120 k = F 120 k from if_neg (fun g => e g.2)]; exact (h k hk).2
theorem mRolls_PV {F : FT} {b c d : Nat} (h : PV F) (hd : d < 8) : PV (mRolls F b c d) := by
  unfold mRolls
  split
  · next g =>
    split
    · unfold mMove
      split
      · exact (((((h.at (Or.inr ⟨_, nx_lt g.1 g.2, rfl⟩)).o ⟨by decide, by decide⟩).at (Or.inl rfl)).o ⟨by decide, by decide⟩))
      · exact (h.at (Or.inr ⟨_, nx_lt g.1 g.2, rfl⟩)).o ⟨by decide, by decide⟩
    · unfold mMeet
      exact ((((h.o ⟨by decide, by decide⟩).o ⟨by decide, by decide⟩).way hd).o ⟨by decide, by decide⟩).o ⟨by decide, by decide⟩
  · unfold mOut
    exact ((h.way (bw1_lt hd)).way (bnc_lt hd)).o ⟨by decide, by decide⟩
def mStep (F : FT) (k : Nat) : FT := if F 119 k < 0 then F else if F 121 k ≤ 0 then F else mRolls F k (F 119 k).toNatClampNeg (F 120 k).toNatClampNeg
def mTick (F : FT) : Nat → FT
  | 0 => F
  | i + 1 => mStep (mTick F i) i
def mRun (F : FT) : Nat → FT
  | 0 => F
  | n + 1 => if anyB (isR F) 8 = true then mRun (mTick F 8) n else F
theorem mStep_PV {F : FT} {k : Nat} (h : PV F) (hk : k < 8) : PV (mStep F k) := by
  unfold mStep
  split
  · exact h
  · split
    · exact h
    · obtain ⟨d, hd, e⟩ := (h k hk).2
      exact mRolls_PV h (by rw [e, nI_clamp (by omega)]; exact hd)
theorem mTick_PV {F : FT} (h : PV F) : ∀ {i : Nat}, i ≤ 8 → PV (mTick F i)
  | 0, _ => h
  | i + 1, hi => mStep_PV (mTick_PV h (by omega)) (by omega)
theorem mRun_PV : ∀ {n : Nat} {F : FT}, PV F → PV (mRun F n)
  | 0, _, h => h
  | n + 1, F, h => by
    show PV (if anyB (isR F) 8 = true then mRun (mTick F 8) n else F)
    split
    · exact mRun_PV (mTick_PV h (Nat.le_refl 8))
    · exact h
/-- the balls of frame f, lying still -/
def iF (F : FT) (f i : Nat) : FT := fun s j => if j < i then (if s = 119 then F 118 (8 * f + j) else if s = 120 ∨ s = 121 then nI 0 else F s j) else F s j
theorem iF_0 (F : FT) (f : Nat) : iF F f 0 = F := by
  funext s j
  exact if_neg (by omega)
theorem iF_o {F : FT} {f i s j : Nat} (h : s ≠ 119 ∧ s ≠ 120 ∧ s ≠ 121) : iF F f i s j = F s j := by
  unfold iF
  split
  · rw [if_neg h.1, if_neg (by omega)]
  · rfl
theorem iF_s (F : FT) (f i : Nat) : u2 (u2 (u2 (iF F f i) 119 i (F 118 (8 * f + i))) 121 i (nI 0)) 120 i (nI 0) = iF F f (i + 1) := by
  funext s j
  simp only [u2, iF]
  by_cases e : j = i
  · subst e
    rw [if_pos (Nat.lt_succ_self j)]
    by_cases h1 : s = 120
    · subst h1; simp
    · by_cases h2 : s = 121
      · subst h2; simp
      · by_cases h3 : s = 119
        · subst h3; simp
        · simp [h1, h2, h3]
  · by_cases g : j < i
    · rw [if_pos g, if_pos (by omega : j < i + 1)]; simp [e]
    · rw [if_neg g, if_neg (by omega : ¬ j < i + 1)]; simp [e]
/-- the balls of frame f can lie so -/
def BV (F : FT) (f : Nat) : Prop := ∀ k, k < 8 → F 118 (8 * f + k) = -1 ∨ ∃ c, c < 128 ∧ F 118 (8 * f + k) = nI c
def mS0 (F : FT) (f d : Nat) (p : Int32) : FT := u2 (u2 (u2 (u2 (u2 (iF F f 8) 120 0 (nI d)) 121 0 (if 0 ≤ F 118 (8 * f) then p else nI 0)) 22 0 (-1)) 23 0 (nI 0)) 24 0 (nI 0)
theorem mS0_PV {F : FT} {f d : Nat} {p : Int32} (h : BV F f) (hd : d < 8) : PV (mS0 F f d p) := by
  have h0 : PV (iF F f 8) := by
    intro k hk
    rw [show iF F f 8 119 k = F 118 (8 * f + k) by unfold iF; rw [if_pos hk]; rfl, show iF F f 8 120 k = nI 0 by unfold iF; rw [if_pos hk]; rfl]
    exact ⟨h k hk, 0, by decide, rfl⟩
  exact ((((h0.way hd).o ⟨by decide, by decide⟩).o ⟨by decide, by decide⟩).o ⟨by decide, by decide⟩).o ⟨by decide, by decide⟩
def mShot (F : FT) (f d : Nat) (p : Int32) : FT := mRun (mS0 F f d p) 300
