-- ===== the model: seen, isHidden, isOver, scores, fouls =====
def seenN (F : FT) (d : Nat) : Nat → Nat → Nat → Int32
  | 0, _, _ => -1
  | n + 1, k, r => if 1 ≤ k ∧ k ≤ 16 then (if 1 ≤ r ∧ r ≤ 8 then (if mIn F (nI (16 * (r - 1) + (k - 1))) = -1 then seenN F d n (k + ex d - 1) (r + ey d - 1) else mIn F (nI (16 * (r - 1) + (k - 1)))) else -1) else -1
def ms (d k r : Nat) : Nat := if ex d = 2 then 17 - k else if ex d = 0 then k else if ey d = 2 then 9 - r else r
theorem ms_lt {d k r : Nat} (hd : d < 8) (hk : 1 ≤ k ∧ k ≤ 16) (hr : 1 ≤ r ∧ r ≤ 8) : ms d (k + ex d - 1) (r + ey d - 1) < ms d k r := by
  obtain ⟨k1, k2⟩ := hk
  obtain ⟨r1, r2⟩ := hr
  have h : d = 0 ∨ d = 1 ∨ d = 2 ∨ d = 3 ∨ d = 4 ∨ d = 5 ∨ d = 6 ∨ d = 7 := by omega
  rcases h with rfl | rfl | rfl | rfl | rfl | rfl | rfl | rfl
  · show r + 0 - 1 < r; omega
  · show 17 - (k + 2 - 1) < 17 - k; omega
  · show 17 - (k + 2 - 1) < 17 - k; omega
  · show 17 - (k + 2 - 1) < 17 - k; omega
  · show 9 - (r + 2 - 1) < 9 - r; omega
  · show k + 0 - 1 < k; omega
  · show k + 0 - 1 < k; omega
  · show k + 0 - 1 < k; omega
theorem shN (k e : Nat) (h : 1 ≤ k) : nI k - nI 1 + (nI e - nI 1) = nI (k + e - 1) - nI 1 := by
  rw [pk_sub h, shA, show k - 1 + e = k + e - 1 by omega]
theorem xyI {k r : Nat} (hk : 1 ≤ k) (hr : 1 ≤ r) : nI 16 * (nI r - nI 1) + (nI k - nI 1) = nI (16 * (r - 1) + (k - 1)) := by
  rw [pk_sub hk, pk_sub hr, pk_mul, nI_add]
def allB (p : Nat → Prop) [DecidablePred p] : Nat → Bool
  | 0 => true
  | n + 1 => allB p n && decide (p n)
theorem all_t {p : Nat → Prop} [DecidablePred p] {n : Nat} (h : p n) : b2 (allB p (n + 1) = true) = b2 (allB p n = true) &&& nI 1 := by
  rw [b2_eq (show (allB p (n + 1) = true) ↔ (allB p n = true) by simp [allB, h])]
  rcases b2_or (allB p n = true) with e | e <;> rw [e] <;> decide
theorem all_f {p : Nat → Prop} [DecidablePred p] {n : Nat} (h : ¬ p n) : b2 (allB p (n + 1) = true) = b2 (allB p n = true) &&& nI 0 := by
  rw [b2_f (show ¬ (allB p (n + 1) = true) by simp [allB, h])]
  rcases b2_or (allB p n = true) with e | e <;> rw [e] <;> decide
def seeF (F : FT) (d : Nat) : Int32 := seenN F d 18 ((F 119 0).toNatClampNeg % 16 + ex d) ((F 119 0).toNatClampNeg / 16 + ey d)
abbrev hidP (F : FT) (x : Int32) (d : Nat) : Prop := ¬ seeF F d = x
