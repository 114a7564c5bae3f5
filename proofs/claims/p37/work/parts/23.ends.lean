-- ===== the model: isOver, scores, fouls =====
def hF (F : FT) (f i : Nat) : FT := fun s j => if s = 104 ∧ j < i ∧ F 104 j = nI (f + 1) then nI 0 else F s j
theorem hF_0 (F : FT) (f : Nat) : hF F f 0 = F := by
  funext s j
  exact if_neg (fun h => by omega)
theorem hF_o {F : FT} {f i s j : Nat} (h : s ≠ 104 ∨ i ≤ j) : hF F f i s j = F s j := if_neg (fun g => by omega)
theorem hF_t {F : FT} {f i : Nat} (h : F 104 i = nI (f + 1)) : u2 (hF F f i) 104 i (nI 0) = hF F f (i + 1) := by
  funext s j
  simp only [u2, hF]
  by_cases e : s = 104 ∧ j = i
  · obtain ⟨rfl, rfl⟩ := e
    rw [if_pos ⟨rfl, rfl⟩, if_pos ⟨rfl, Nat.lt_succ_self _, h⟩]
  · rw [if_neg e]
    by_cases g : s = 104 ∧ j < i ∧ F 104 j = nI (f + 1)
    · rw [if_pos g, if_pos ⟨g.1, Nat.lt_succ_of_lt g.2.1, g.2.2⟩]
    · rw [if_neg g, if_neg (fun q => g ⟨q.1, by have := q.2.1; by_cases e2 : j = i; exact absurd ⟨q.1, e2⟩ e; omega, q.2.2⟩)]
theorem hF_f {F : FT} {f i : Nat} (h : ¬ F 104 i = nI (f + 1)) : u2 (hF F f i) 104 i (F 104 i) = hF F f (i + 1) := by
  funext s j
  simp only [u2, hF]
  by_cases e : s = 104 ∧ j = i
  · obtain ⟨rfl, rfl⟩ := e
    rw [if_pos ⟨rfl, rfl⟩, if_neg (fun g => h g.2.2)]
  · rw [if_neg e]
    by_cases g : s = 104 ∧ j < i ∧ F 104 j = nI (f + 1)
    · rw [if_pos g, if_pos ⟨g.1, Nat.lt_succ_of_lt g.2.1, g.2.2⟩]
    · rw [if_neg g, if_neg (fun q => g ⟨q.1, by have := q.2.1; by_cases e2 : j = i; exact absurd ⟨q.1, e2⟩ e; omega, q.2.2⟩)]
def overI (F : FT) (f u : Nat) : Nat := if F 115 (2 * f) ≤ F 115 (2 * f + 1) then (if F 115 (2 * f + 1) ≤ F 115 (2 * f) then u else 1) else 0
def mOver (F : FT) (f u : Nat) : FT := hF (u2 (u2 F 117 f (F 111 (2 * f + overI F f u))) 113 f (nI 2)) f 4
abbrev dB (F : FT) (k : Nat) : Prop := (F 24 0 >>> (nI k &&& 31)) &&& nI 1 = nI 1
def sumD (F : FT) : Nat → Nat
  | 0 => 0
  | k + 1 => sumD F k + (if dB F k then k else 0)
theorem sumD_1 (F : FT) : sumD F 1 = 0 := by
  show 0 + (if dB F 0 then 0 else 0) = 0
  split <;> rfl
theorem sumD_le (F : FT) : ∀ n, n ≤ 8 → sumD F n ≤ 8 * n
  | 0, _ => Nat.le_refl _
  | n + 1, h => by
    have := sumD_le F n (by omega)
    show sumD F n + (if dB F n then n else 0) ≤ 8 * (n + 1)
    split <;> omega
theorem sumD_t {F : FT} {k : Nat} (h : dB F k) : sumD F (k + 1) = sumD F k + k := congrArg (fun x => sumD F k + x) (if_pos h)
theorem sumD_f {F : FT} {k : Nat} (h : ¬ dB F k) : sumD F (k + 1) = sumD F k + 0 := congrArg (fun x => sumD F k + x) (if_neg h)
abbrev lowF (F : FT) (f : Nat) : Int32 := lowA (fun k => ¬ F 118 (8 * f + k) < 0) 7
def mSc1 (F : FT) (f u : Nat) : FT := u2 (u2 F 115 (2 * f + u) (F 115 (2 * f + u) + nI (sumD F 8))) 116 f (nI 0)
def mScores (F : FT) (f u : Nat) : Int32 × FT := (nI (sumD F 8), if 0 ≤ lowF F f then (if sumD F 8 = 0 then u2 (mSc1 F f u) 114 f (nI (1 - u)) else mSc1 F f u) else mOver (mSc1 F f u) f u)
def fF (F : FT) (f : Nat) : Nat → FT
  | 0 => F
  | k + 1 => if dB F k then cbF (fF F f k) f k else fF F f k
theorem fF_o {F : FT} {f s j : Nat} (h : s ≠ 118 ∧ s ≠ 119) : ∀ {k : Nat}, fF F f k s j = F s j
  | 0 => rfl
  | k + 1 => by
    show (if dB F k then cbF (fF F f k) f k else fF F f k) s j = F s j
    split
    · rw [show cbF (fF F f k) f k s j = fF F f k s j from (if_neg (fun g => h.1 g.1)).trans (if_neg (fun g => h.2 g.1))]
      exact fF_o h
    · exact fF_o h
def fSum (on : Int32) : Int32 := if nI 4 ≤ on then on else nI 4
def fF2 (F : FT) (f u : Nat) (on : Int32) : FT := u2 (u2 (fF F f 8) 114 f (nI (1 - u))) 115 (2 * f + (1 - u)) (F 115 (2 * f + (1 - u)) + fSum on)
def mFouls (F : FT) (f u : Nat) (on : Int32) : Int32 × FT := (-fSum on, u2 (fF2 F f u on) 116 f (b2 (allB (hidP (fF2 F f u on) (lowF (fF2 F f u on) f)) 8 = true)))
