-- ===== the model: frames, cues, sums =====
theorem cnt_t {p : Nat → Prop} [DecidablePred p] {n : Nat} (h : p n) : cnt p (n + 1) = cnt p n + 1 := congrArg (fun x => cnt p n + x) (if_pos h)
theorem cnt_f {p : Nat → Prop} [DecidablePred p] {n : Nat} (h : ¬ p n) : cnt p (n + 1) = cnt p n + 0 := congrArg (fun x => cnt p n + x) (if_neg h)
theorem iiM {a b : Nat} (h : a = b + 1) : nI a + Int32.ofInt (-1) = nI b := by rw [h]; exact pk_m1 b
theorem asks_in {n f : Nat} (h : f < n) (hn : n < 2 ^ 31) : nI 0 ≤ nI f ∧ nI f ≤ nI n - nI 1 := by
  rw [pk_sub (by omega)]
  exact inN (by omega) (by omega)
/-- balls by their spots -/
def bF (F : FT) (n i : Nat) : FT := fun s j => if s = 118 ∧ 8 * n ≤ j ∧ j < 8 * n + i then nI (spN (j - 8 * n)) else F s j
theorem bF_0 (F : FT) (n : Nat) : bF F n 0 = F := by
  funext s j
  exact if_neg (fun h => by omega)
theorem bF_s (F : FT) (n i : Nat) : u2 (bF F n i) 118 (8 * n + i) (nI (spN i)) = bF F n (i + 1) := by
  funext s j
  simp only [u2, bF]
  by_cases h : s = 118 ∧ j = 8 * n + i
  · obtain ⟨rfl, rfl⟩ := h
    rw [if_pos ⟨rfl, rfl⟩, if_pos ⟨rfl, by omega, by omega⟩, show 8 * n + i - 8 * n = i by omega]
  · rw [if_neg h]
    by_cases g : s = 118 ∧ 8 * n ≤ j ∧ j < 8 * n + i
    · rw [if_pos g, if_pos ⟨g.1, g.2.1, by omega⟩]
    · rw [if_neg g, if_neg (fun q => h ⟨q.1, by have := q.2.2; have := q.2.1; by_cases e : j < 8 * n + i; exact absurd ⟨q.1, q.2.1, e⟩ g; omega⟩)]
def mB0 (F : FT) (a b n : Nat) (z : Int32) : FT := u2 (u2 (u2 (u2 (u2 (thr (thr F (nI 0)) (nI 0)) 10 0 (nI (n + 1))) 111 (2 * n) (nI a)) 111 (2 * n + 1) (nI b)) 112 n z) 117 n (-1)
def mBegin (F : FT) (t a b n : Nat) (z : Int32) : Int32 × FT :=
  if a = b then (nI 0, thr (thr F (nI 0)) (nI 2)) else if n = 20 then (nI 0, thr (thr F (nI 0)) (nI 3)) else if (F 102 t = 0 ∧ F 104 t = 0 ∧ (¬ z = 0 ∨ (F 103 t = nI (a + 1) ∨ F 103 t = nI (b + 1)))) then (nI n, u2 (bF (mB0 F a b n z) n 8) 104 t (nI (n + 1))) else (nI 0, thr (thr F (nI 0)) (nI 3))
def mResume (F : FT) (f t a b u : Nat) : Int32 × FT :=
  if F 113 f = nI 1 then (if (F 102 t = 0 ∧ F 104 t = 0 ∧ (¬ F 112 f = 0 ∨ (F 103 t = nI (a + 1) ∨ F 103 t = nI (b + 1)))) then (F 111 (2 * f + u), u2 (u2 (thr (thr F (nI 0)) (nI 0)) 113 f (nI 0)) 104 t (nI (f + 1))) else (nI 0, thr (thr F (nI 0)) (nI 2))) else (nI 0, thr (thr F (nI 0)) (nI 2))
def mLend (F : FT) (u c : Nat) : Int32 × FT := if 0 < F 107 u then (nI 0, thr (thr F (nI 0)) (nI 2)) else if (lastW (fun k => F 107 k = nI (c + 1)) 6) < 0 then (F 108 u, u2 (u2 (thr (thr F (nI 0)) (nI 0)) 107 u (nI (c + 1))) 109 u (F 108 u)) else (nI 0, thr (thr F (nI 0)) (nI 2))
def mBack (F : FT) (u l : Nat) : Int32 × FT := if l = 0 then (nI 0, thr (thr F (nI 0)) (nI 2)) else (nI 20 - (F 108 u - F 109 u) / nI 5, u2 (u2 (thr (thr F (nI 0)) (nI 0)) 106 (l - 1) (F 106 (l - 1) + (F 108 u - F 109 u) / nI 5)) 107 u (nI 0))
def mTip (F : FT) (u : Nat) : Int32 × FT := if F 107 u ≤ 0 then (F 108 u, u2 (thr (thr F (nI 0)) (nI 0)) 108 u (nI 0)) else (nI 0, thr (thr F (nI 0)) (nI 2))
def clip1 (x : Int32) : Int32 := if nI 1 ≤ x then x else nI 1
def wN (F : FT) (n c : Nat) : Nat := cnt (fun k => ¬ F 112 k = 0 ∧ F 117 k = nI c) n
theorem wN_le (F : FT) (n c : Nat) : wN F n c ≤ n := cnt_le _ n
