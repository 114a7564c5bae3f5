-- ===== the model: a ball's roll =====
def ex (d : Nat) : Nat := if 1 ≤ d ∧ d ≤ 3 then 2 else if 5 ≤ d ∧ d ≤ 7 then 0 else 1
def ey (d : Nat) : Nat := if 3 ≤ d ∧ d ≤ 5 then 2 else if d = 0 ∨ d = 1 ∨ d = 7 then 0 else 1
theorem ex_le (d : Nat) : ex d ≤ 2 := by unfold ex; split <;> (try split) <;> omega
theorem ey_le (d : Nat) : ey d ≤ 2 := by unfold ey; split <;> (try split) <;> omega
abbrev cin (c d : Nat) : Prop := 1 ≤ c % 16 + ex d ∧ c % 16 + ex d ≤ 16
abbrev rin (c d : Nat) : Prop := 1 ≤ c / 16 + ey d ∧ c / 16 + ey d ≤ 8
def nx (c d : Nat) : Nat := 16 * (c / 16 + ey d - 1) + (c % 16 + ex d - 1)
theorem nx_lt {c d : Nat} (h : cin c d) (g : rin c d) : nx c d < 128 := by unfold nx; have := h.1; have := h.2; have := g.1; have := g.2; omega
def bw1 (c d : Nat) : Nat := if cin c d then d else (8 - d) % 8
def bnc (c d : Nat) : Nat := if rin c d then bw1 c d else (12 - bw1 c d) % 8
theorem bw1_lt {c d : Nat} (h : d < 8) : bw1 c d < 8 := by unfold bw1; split <;> omega
theorem bnc_lt {c d : Nat} (h : d < 8) : bnc c d < 8 := by unfold bnc; have := bw1_lt (c := c) h; split <;> omega
theorem shI {k n : Nat} (hk : k < 100) (hn : n < 100) : (nI 0 ≤ nI k - nI 1 ∧ nI k - nI 1 ≤ nI n) ↔ (1 ≤ k ∧ k ≤ n + 1) := by
  rcases k with _ | k
  · exact ⟨fun h => absurd h.1 (by decide), fun h => absurd h.1 (by omega)⟩
  · rw [pk_sub (by omega), Nat.add_sub_cancel]
    exact ⟨fun h => ⟨by omega, by have := (nI_leI (by omega) (by omega)).mp h.2; omega⟩, fun h => inN (by omega) (by omega)⟩
theorem shA (a b : Nat) : nI a + (nI b - nI 1) = nI (a + b) - nI 1 := by rw [← nI_add a b, Int32.sub_eq_add_neg, Int32.sub_eq_add_neg, Int32.add_assoc]
abbrev mIn (F : FT) (x : Int32) : Int32 := lastW (fun k => F 119 k = x) 8
def mOut (F : FT) (b c d : Nat) : FT := u2 (u2 (u2 F 120 b (nI (bw1 c d))) 120 b (nI (bnc c d))) 121 b (F 121 b - nI 1)
def mMeet (F : FT) (b o d : Nat) : FT :=
  u2 (u2 (u2 (u2 (u2 F 121 b (F 121 b - (F 121 b + nI 1) / nI 2)) 121 o (u2 F 121 b (F 121 b - (F 121 b + nI 1) / nI 2) 121 o + (F 121 b + nI 1) / nI 2)) 120 o (nI d)) 23 0 (F 23 0 + nI 1)) 22 0 (if b = 0 ∧ ¬ 0 ≤ F 22 0 then nI o else F 22 0)
def mMove (F : FT) (b x : Nat) : FT := if pkN x then u2 (u2 (u2 (u2 F 119 b (nI x)) 121 b (F 121 b - nI 1)) 119 b (-1)) 24 0 (F 24 0 ||| (nI 1 <<< (nI b &&& 31))) else u2 (u2 F 119 b (nI x)) 121 b (F 121 b - nI 1)
theorem nxI {c d : Nat} (h : cin c d) (g : rin c d) : nI 16 * (nI (c / 16 + ey d) - nI 1) + (nI (c % 16 + ex d) - nI 1) = nI (nx c d) := by
  rw [pk_sub g.1, pk_sub h.1, pk_mul, nI_add]
  rfl
theorem nI_nm1 {j : Nat} (h : j < 2 ^ 31) : ¬ nI j = -1 := fun e => absurd (show (0 : Int32) ≤ -1 by rw [← e]; exact nI_pos' h) (by decide)
def mRolls (F : FT) (b c d : Nat) : FT := if cin c d ∧ rin c d then (if mIn F (nI (nx c d)) = -1 then mMove F b (nx c d) else mMeet F b (mIn F (nI (nx c d))).toNatClampNeg d) else mOut F b c d
def anyB (p : Nat → Prop) [DecidablePred p] : Nat → Bool
  | 0 => false
  | n + 1 => anyB p n || decide (p n)
theorem any_t {p : Nat → Prop} [DecidablePred p] {n : Nat} (h : p n) : b2 (anyB p (n + 1) = true) = b2 (anyB p n = true) ||| nI 1 := by
  rw [b2_t (show anyB p (n + 1) = true by simp [anyB, h])]
  rcases b2_or (anyB p n = true) with e | e <;> rw [e] <;> decide
theorem any_f {p : Nat → Prop} [DecidablePred p] {n : Nat} (h : ¬ p n) : b2 (anyB p (n + 1) = true) = b2 (anyB p n = true) ||| nI 0 := by
  rw [b2_eq (show (anyB p (n + 1) = true) ↔ (anyB p n = true) by simp [anyB, h])]
  rcases b2_or (anyB p n = true) with e | e <;> rw [e] <;> decide
theorem anyB_congr {p q : Nat → Prop} [DecidablePred p] [DecidablePred q] : ∀ {n : Nat}, (∀ j, j < n → (p j ↔ q j)) → anyB p n = anyB q n
  | 0, _ => rfl
  | n + 1, h => by
    show (anyB p n || decide (p n)) = (anyB q n || decide (q n))
    rw [anyB_congr (fun j hj => h j (Nat.lt_succ_of_lt hj))]
    simp only [h n (Nat.lt_succ_self n)]
abbrev isR (F : FT) (k : Nat) : Prop := ¬ F 119 k < 0 ∧ ¬ F 121 k ≤ 0
