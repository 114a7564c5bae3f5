-- ===== the model: pass, lowest, what is asked =====
/-- which tables count -/
abbrev cnT (F : FT) (hs : Nat → Nat) (k : Nat) : Prop := ¬ F 103 k ≤ 0 ∧ (hs k = 0 ∨ F 112 (hs k - 1) = 0)
/-- the clocks of the first i tables go on -/
def pF (F : FT) (hs : Nat → Nat) (x : Int32) (i : Nat) : FT := fun s j => if s = 105 ∧ j < i ∧ cnT F hs j then F s j + x else F s j
theorem pF_0 (F : FT) (hs : Nat → Nat) (x : Int32) : pF F hs x 0 = F := by
  funext s j
  exact if_neg (fun h => by omega)
theorem pF_o {F : FT} {hs : Nat → Nat} {x : Int32} {i s j : Nat} (h : s ≠ 105 ∨ i ≤ j) : pF F hs x i s j = F s j := if_neg (fun g => by omega)
theorem pF_t {F : FT} {hs : Nat → Nat} {x : Int32} {i : Nat} (h : cnT F hs i) : u2 (pF F hs x i) 105 i (F 105 i + x) = pF F hs x (i + 1) := by
  funext s j
  simp only [u2, pF]
  by_cases e : s = 105 ∧ j = i
  · obtain ⟨rfl, rfl⟩ := e
    rw [if_pos ⟨rfl, rfl⟩, if_pos ⟨rfl, Nat.lt_succ_self _, h⟩]
  · rw [if_neg e]
    by_cases g : s = 105 ∧ j < i ∧ cnT F hs j
    · rw [if_pos g, if_pos ⟨g.1, Nat.lt_succ_of_lt g.2.1, g.2.2⟩]
    · rw [if_neg g, if_neg (fun q => g ⟨q.1, by have := q.2.1; by_cases e2 : j = i; exact absurd ⟨q.1, e2⟩ e; omega, q.2.2⟩)]
theorem pF_f {F : FT} {hs : Nat → Nat} {x : Int32} {i : Nat} (h : ¬ cnT F hs i) : u2 (pF F hs x i) 105 i (F 105 i + nI 0) = pF F hs x (i + 1) := by
  funext s j
  simp only [u2, pF]
  by_cases e : s = 105 ∧ j = i
  · obtain ⟨rfl, rfl⟩ := e
    rw [if_pos ⟨rfl, rfl⟩, if_neg (fun g => h g.2.2)]
    exact Int32.add_zero _
  · rw [if_neg e]
    by_cases g : s = 105 ∧ j < i ∧ cnT F hs j
    · rw [if_pos g, if_pos ⟨g.1, Nat.lt_succ_of_lt g.2.1, g.2.2⟩]
    · rw [if_neg g, if_neg (fun q => g ⟨q.1, by have := q.2.1; by_cases e2 : j = i; exact absurd ⟨q.1, e2⟩ e; omega, q.2.2⟩)]
/-- minutes that were counted -/
def pN (F : FT) (hs : Nat → Nat) (x : Int32) : Nat → Int32
  | 0 => nI 0
  | i + 1 => pN F hs x i + (if cnT F hs i then x else nI 0)
theorem pN_t {F : FT} {hs : Nat → Nat} {x : Int32} {i : Nat} (h : cnT F hs i) : pN F hs x (i + 1) = pN F hs x i + x := congrArg (fun v => pN F hs x i + v) (if_pos h)
theorem pN_f {F : FT} {hs : Nat → Nat} {x : Int32} {i : Nat} (h : ¬ cnT F hs i) : pN F hs x (i + 1) = pN F hs x i + nI 0 := congrArg (fun v => pN F hs x i + v) (if_neg h)
def pG (F : FT) (x : Int32) : FT := u2 (thr F (nI 0)) 0 0 (F 0 0 + x)
def lowA (p : Nat → Prop) [DecidablePred p] : Nat → Int32
  | 0 => -1
  | d + 1 => if p (7 - d) then nI (7 - d) else lowA p d
