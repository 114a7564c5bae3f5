-- ===== a new frame =====
def fnZ (Z : HS) (p e : Nat) (C : Nat → Int32) (m a b z : Int32) : HS := sI (sI (sI (sI (sI (sR (nA Z e 10 8 C) 2 4 p (some e)) 2 10 p (-1)) 2 0 p m) 2 1 p a) 2 2 p b) 2 3 p z
theorem fnZ_AG {Z : HS} {p e : Nat} {C : Nat → Int32} {m a b z : Int32} (hp : xK Z p = 99) (he : xK Z e = 99) : AG Z (fnZ (nO Z p 2) p e C m a b z) := (((((((((AG.refl Z).nX hp).nX he).sR hp).sI hp).sI hp).sI hp).sI hp).sI hp)
def newF (F : FT) (a b n : Nat) (z : Int32) : FT := u2 (bF (mB0 F a b n z) n 8) 113 n (nI 1)
theorem bF_o {F : FT} {n i s j : Nat} (h : s ≠ 118 ∨ ¬ (8 * n ≤ j ∧ j < 8 * n + i)) : bF F n i s j = F s j := if_neg (fun q => by omega)
theorem nF_o {F : FT} {a b n s j : Nat} {z : Int32} (h : s ≠ 10 ∧ s ≠ 25 ∧ s ≠ 111 ∧ s ≠ 112 ∧ s ≠ 113 ∧ s ≠ 117 ∧ s ≠ 118) : newF F a b n z s j = F s j := by
  unfold newF mB0 thr
  rw [u2_s h.2.2.2.2.1, bF_o (Or.inl h.2.2.2.2.2.2), u2_s h.2.2.2.2.2.1, u2_s h.2.2.2.1, u2_s h.2.2.1, u2_s h.2.2.1, u2_s h.1, u2_s h.2.1, u2_s h.2.1]
theorem nF_j {F : FT} {a b n s j : Nat} {z : Int32} (h : s = 111 ∨ s = 112 ∨ s = 113 ∨ s = 117) (hj : j ≠ n ∧ (s = 111 → j ≠ 2 * n ∧ j ≠ 2 * n + 1) ∨ (s = 111 ∧ j ≠ 2 * n ∧ j ≠ 2 * n + 1)) : newF F a b n z s j = F s j := by
  unfold newF mB0 thr
  rcases h with rfl | rfl | rfl | rfl
  · have : j ≠ 2 * n ∧ j ≠ 2 * n + 1 := by omega
    rw [u2_s (by decide), bF_o (Or.inl (by decide)), u2_s (by decide), u2_s (by decide), u2_j this.2, u2_j this.1, u2_s (by decide), u2_s (by decide), u2_s (by decide)]
  · rw [u2_s (by decide), bF_o (Or.inl (by decide)), u2_s (by decide), u2_j (by omega), u2_s (by decide), u2_s (by decide), u2_s (by decide), u2_s (by decide), u2_s (by decide)]
  · rw [u2_j (by omega), bF_o (Or.inl (by decide)), u2_s (by decide), u2_s (by decide), u2_s (by decide), u2_s (by decide), u2_s (by decide), u2_s (by decide), u2_s (by decide)]
  · rw [u2_s (by decide), bF_o (Or.inl (by decide)), u2_j (by omega), u2_s (by decide), u2_s (by decide), u2_s (by decide), u2_s (by decide), u2_s (by decide), u2_s (by decide)]
theorem nF_118 {F : FT} {a b n j : Nat} {z : Int32} (h : ¬ (8 * n ≤ j ∧ j < 8 * n + 8)) : newF F a b n z 118 j = F 118 j := by
  unfold newF mB0 thr
  rw [u2_s (by decide), bF_o (Or.inr h), u2_s (by decide), u2_s (by decide), u2_s (by decide), u2_s (by decide), u2_s (by decide), u2_s (by decide), u2_s (by decide)]
theorem nF_sp {F : FT} {a b n j : Nat} {z : Int32} (h : j < 8) : newF F a b n z 118 (8 * n + j) = nI (spN j) := by
  unfold newF
  rw [u2_s (by decide)]
  exact (if_pos ⟨rfl, by omega, by omega⟩).trans (by rw [show 8 * n + j - 8 * n = j by omega])
theorem nF_10 {F : FT} {a b n : Nat} {z : Int32} : newF F a b n z 10 0 = nI (n + 1) := by
  unfold newF mB0
  rw [u2_s (by decide), bF_o (Or.inl (by decide)), u2_s (by decide), u2_s (by decide), u2_s (by decide), u2_s (by decide), u2_e]
theorem nF_a {F : FT} {a b n : Nat} {z : Int32} : newF F a b n z 111 (2 * n) = nI a := by
  unfold newF mB0
  rw [u2_s (by decide), bF_o (Or.inl (by decide)), u2_s (by decide), u2_s (by decide), u2_j (by omega), u2_e]
theorem nF_b {F : FT} {a b n : Nat} {z : Int32} : newF F a b n z 111 (2 * n + 1) = nI b := by
  unfold newF mB0
  rw [u2_s (by decide), bF_o (Or.inl (by decide)), u2_s (by decide), u2_s (by decide), u2_e]
theorem nF_112 {F : FT} {a b n : Nat} {z : Int32} : newF F a b n z 112 n = z := by
  unfold newF mB0
  rw [u2_s (by decide), bF_o (Or.inl (by decide)), u2_s (by decide), u2_e]
theorem nF_117 {F : FT} {a b n : Nat} {z : Int32} : newF F a b n z 117 n = -1 := by
  unfold newF mB0
  rw [u2_s (by decide), bF_o (Or.inl (by decide)), u2_e]
theorem nF_113 {F : FT} {a b n : Nat} {z : Int32} : newF F a b n z 113 n = nI 1 := u2_e
theorem spN_inj : ∀ i, i < 8 → ∀ j, j < 8 → spN i = spN j → i = j := by decide
def newG (g : GN) (a b : Nat) : GN := u2 (u2 (u2 (u2 (u2 g 16 0 (g 16 0 + 1)) 20 (g 16 0) a) 21 (g 16 0) b) 22 (g 16 0) 0) 23 (g 16 0) 0
theorem wG_o {g : GN} {a b s j : Nat} (h : s ≠ 16 ∧ s ≠ 20 ∧ s ≠ 21 ∧ s ≠ 22 ∧ s ≠ 23) : newG g a b s j = g s j := by
  unfold newG
  rw [u2n_s h.2.2.2.2, u2n_s h.2.2.2.1, u2n_s h.2.2.1, u2n_s h.2.1, u2n_s h.1]
theorem wG_j {g : GN} {a b s j : Nat} (h : j ≠ g 16 0) (hs : s ≠ 16) : newG g a b s j = g s j := by
  unfold newG
  rw [u2n_j h, u2n_j h, u2n_j h, u2n_j h, u2n_s hs]
theorem wG_16 {g : GN} {a b : Nat} : newG g a b 16 0 = g 16 0 + 1 := by
  unfold newG
  rw [u2n_s (by decide), u2n_s (by decide), u2n_s (by decide), u2n_s (by decide), u2n_e]
theorem wG_20 {g : GN} {a b : Nat} : newG g a b 20 (g 16 0) = a := by
  unfold newG
  rw [u2n_s (by decide), u2n_s (by decide), u2n_s (by decide), u2n_e]
theorem wG_21 {g : GN} {a b : Nat} : newG g a b 21 (g 16 0) = b := by
  unfold newG
  rw [u2n_s (by decide), u2n_s (by decide), u2n_e]
theorem wG_22 {g : GN} {a b : Nat} : newG g a b 22 (g 16 0) = 0 := by
  unfold newG
  rw [u2n_s (by decide), u2n_e]
theorem wG_23 {g : GN} {a b : Nat} : newG g a b 23 (g 16 0) = 0 := by
  unfold newG
  rw [u2n_e]
theorem FrP_f {F F' : FT} {g g' : GN} {f : Nat} (q : FrP F g f) (ea : F' 111 (2 * f) = F 111 (2 * f)) (eb : F' 111 (2 * f + 1) = F 111 (2 * f + 1)) (e : ∀ s, 112 ≤ s → s ≤ 117 → s ≠ 115 → F' s f = F s f) (ec : ∀ k, k < 8 → F' 118 (8 * f + k) = F 118 (8 * f + k)) (e2 : ∀ s, 20 ≤ s → s ≤ 23 → g' s f = g s f) (e3 : ∀ i, g' 1 i = g 1 i) : FrP F' g' f := by
  obtain ⟨q1, ⟨q2, q3, q4⟩, q5⟩ := q
  unfold FrP
  have el : lowF F' f = lowF F f := lowA_congr (fun k hk => by rw [ec k hk])
  rw [el, ea, eb, e 112 (by decide) (by decide) (by decide), e 113 (by decide) (by decide) (by decide), e 114 (by decide) (by decide) (by decide), e 116 (by decide) (by decide) (by decide), e 117 (by decide) (by decide) (by decide), e2 20 (by decide) (by decide), e2 21 (by decide) (by decide), e2 22 (by decide) (by decide), e2 23 (by decide) (by decide), e3]
  refine ⟨q1, ⟨fun k hk => by rw [ec k hk]; exact q2 k hk, fun i j hi hj => by rw [ec i hi, ec j hj]; exact q3 i j hi hj, ?_⟩, q5⟩
  have := ec 0 (by decide)
  rw [Nat.add_zero] at this
  rw [this]
  exact q4
theorem CIu_new {n : Nat} {Z : HS} {F A : FT} {g : GN} (h : CI n Z F g A) {a b : Nat} {z : Int32} {C : Nat → Int32} (ha : a < 8) (hb : b < 8) (hz : z = 0 ∨ z = 1) (h20 : g 16 0 < 20) (hC : ∀ j, j < 8 → C j = nI (spN j)) : CI n (sI (sP (fnZ (nO Z (200000 + g 16 0) 2) (200000 + g 16 0) (1200000 + g 16 0) C (nI (g 16 0)) (nI a) (nI b) z) 1800002 (g 16 0) (some (200000 + g 16 0))) 8 10 800000 (nI (g 16 0 + 1))) (newF F a b (g 16 0) z) (newG g a b) A := by
  have h0 := h
  obtain ⟨hH, ⟨hPI, hPG, hZo⟩, ⟨hZh, hZd, hZw⟩, ⟨hZt, hZc, hZf⟩, ⟨hZr, hZs, hZl⟩, hZfr, hZbd⟩ := h0
  have q99 := hZfr.1 (g 16 0) (Nat.le_refl _) (by omega)
  obtain ⟨j1, ⟨j2, j3, j4⟩, ⟨j5, j6, j7⟩, ⟨j8, j9, j10⟩⟩ := agCJ (fnZ_AG (C := C) (m := nI (g 16 0)) (a := nI a) (b := nI b) (z := z) q99.1 q99.2) h
  have kp : xK (fnZ (nO Z (200000 + g 16 0) 2) (200000 + g 16 0) (1200000 + g 16 0) C (nI (g 16 0)) (nI a) (nI b) z) (200000 + g 16 0) = 2 := (va_up_ne _ _ (by omega)).trans (va_up_self _ _ _)
  have ke : xK (fnZ (nO Z (200000 + g 16 0) 2) (200000 + g 16 0) (1200000 + g 16 0) C (nI (g 16 0)) (nI a) (nI b) z) (1200000 + g 16 0) = 10 := va_up_self _ _ _
  have ne : xn (fnZ (nO Z (200000 + g 16 0) 2) (200000 + g 16 0) (1200000 + g 16 0) C (nI (g 16 0)) (nI a) (nI b) z) (1200000 + g 16 0) = 8 := va_up_self _ _ _
  have re : xR (fnZ (nO Z (200000 + g 16 0) 2) (200000 + g 16 0) (1200000 + g 16 0) C (nI (g 16 0)) (nI a) (nI b) z) 2 4 (200000 + g 16 0) = some (1200000 + g 16 0) := if_pos ⟨rfl, rfl, rfl⟩
  have ae : ∀ j, j < 8 → xA (fnZ (nO Z (200000 + g 16 0) 2) (200000 + g 16 0) (1200000 + g 16 0) C (nI (g 16 0)) (nI a) (nI b) z) (1200000 + g 16 0) j = nI (spN j) := fun j hj => (congrFun (va_up_self (xA (nO Z (200000 + g 16 0) 2)) (1200000 + g 16 0) C) j).trans (hC j hj)
  have r5 : xR (fnZ (nO Z (200000 + g 16 0) 2) (200000 + g 16 0) (1200000 + g 16 0) C (nI (g 16 0)) (nI a) (nI b) z) 2 5 (200000 + g 16 0) = none := by
    unfold fnZ
    rw [xR_sI', xR_sI', xR_sI', xR_sI', xR_sI', xR_sR (fun w => absurd w.2.1 (by decide))]
    exact (if_neg (by omega)).trans (if_pos rfl)
  have z0 : ∀ k, xI (nA (nO Z (200000 + g 16 0) 2) (1200000 + g 16 0) 10 8 C) 2 k (200000 + g 16 0) = 0 := fun k => (if_neg (by omega)).trans (if_pos rfl)
  have i0 : xI (fnZ (nO Z (200000 + g 16 0) 2) (200000 + g 16 0) (1200000 + g 16 0) C (nI (g 16 0)) (nI a) (nI b) z) 2 0 (200000 + g 16 0) = nI (g 16 0) := by
    unfold fnZ
    rw [xI_sI (fun w => absurd w.2.1 (by decide)), xI_sI (fun w => absurd w.2.1 (by decide)), xI_sI (fun w => absurd w.2.1 (by decide)), xI_sIe]
  have i1 : xI (fnZ (nO Z (200000 + g 16 0) 2) (200000 + g 16 0) (1200000 + g 16 0) C (nI (g 16 0)) (nI a) (nI b) z) 2 1 (200000 + g 16 0) = nI a := by
    unfold fnZ
    rw [xI_sI (fun w => absurd w.2.1 (by decide)), xI_sI (fun w => absurd w.2.1 (by decide)), xI_sIe]
  have i2 : xI (fnZ (nO Z (200000 + g 16 0) 2) (200000 + g 16 0) (1200000 + g 16 0) C (nI (g 16 0)) (nI a) (nI b) z) 2 2 (200000 + g 16 0) = nI b := by
    unfold fnZ
    rw [xI_sI (fun w => absurd w.2.1 (by decide)), xI_sIe]
  have i3 : xI (fnZ (nO Z (200000 + g 16 0) 2) (200000 + g 16 0) (1200000 + g 16 0) C (nI (g 16 0)) (nI a) (nI b) z) 2 3 (200000 + g 16 0) = z := by
    unfold fnZ
    rw [xI_sIe]
  have i10 : xI (fnZ (nO Z (200000 + g 16 0) 2) (200000 + g 16 0) (1200000 + g 16 0) C (nI (g 16 0)) (nI a) (nI b) z) 2 10 (200000 + g 16 0) = -1 := by
    unfold fnZ
    rw [xI_sI (fun w => absurd w.2.1 (by decide)), xI_sI (fun w => absurd w.2.1 (by decide)), xI_sI (fun w => absurd w.2.1 (by decide)), xI_sI (fun w => absurd w.2.1 (by decide)), xI_sIe]
  have i69 : ∀ k, 6 ≤ k → k ≤ 9 → xI (fnZ (nO Z (200000 + g 16 0) 2) (200000 + g 16 0) (1200000 + g 16 0) C (nI (g 16 0)) (nI a) (nI b) z) 2 k (200000 + g 16 0) = 0 := fun k h1 h2 => by
    unfold fnZ
    rw [xI_sI (fun w => by omega), xI_sI (fun w => by omega), xI_sI (fun w => by omega), xI_sI (fun w => by omega), xI_sI (fun w => by omega), xI_sR']
    exact z0 k
  have xk : ∀ a', a' ≠ (200000 + g 16 0) → a' ≠ (1200000 + g 16 0) → xK (fnZ (nO Z (200000 + g 16 0) 2) (200000 + g 16 0) (1200000 + g 16 0) C (nI (g 16 0)) (nI a) (nI b) z) a' = xK Z a' := fun a' h1 h2 => (va_up_ne _ _ h2).trans (va_up_ne _ _ h1)
  generalize fnZ (nO Z (200000 + g 16 0) 2) (200000 + g 16 0) (1200000 + g 16 0) C (nI (g 16 0)) (nI a) (nI b) z = N at *
  have lI : ∀ c9 k9 a9, ¬ (c9 = 8 ∧ k9 = 10 ∧ a9 = 800000) → xI (sI (sP N 1800002 (g 16 0) (some (200000 + g 16 0))) 8 10 800000 (nI (g 16 0 + 1))) c9 k9 a9 = xI N c9 k9 a9 := fun c9 k9 a9 w0 => by rw [xI_sI w0, xI_sP']
  have mI0 : xI (sI (sP N 1800002 (g 16 0) (some (200000 + g 16 0))) 8 10 800000 (nI (g 16 0 + 1))) 8 10 800000 = (nI (g 16 0 + 1)) := by rw [xI_sIe]
  have lR : xR (sI (sP N 1800002 (g 16 0) (some (200000 + g 16 0))) 8 10 800000 (nI (g 16 0 + 1))) = xR N := by rw [xR_sI', xR_sP']
  have lA : xA (sI (sP N 1800002 (g 16 0) (some (200000 + g 16 0))) 8 10 800000 (nI (g 16 0 + 1))) = xA N := by rw [xA_sI', xA_sP']
  have lP : ∀ a9 i9, ¬ (a9 = 1800002 ∧ i9 = (g 16 0)) → xP (sI (sP N 1800002 (g 16 0) (some (200000 + g 16 0))) 8 10 800000 (nI (g 16 0 + 1))) a9 i9 = xP N a9 i9 := fun a9 i9 w0 => by rw [xP_sI', xP_sP w0]
  have mP0 : xP (sI (sP N 1800002 (g 16 0) (some (200000 + g 16 0))) 8 10 800000 (nI (g 16 0 + 1))) 1800002 (g 16 0) = (some (200000 + g 16 0)) := by rw [xP_sI', xP_sPe]
  have lJ : xJ (sI (sP N 1800002 (g 16 0) (some (200000 + g 16 0))) 8 10 800000 (nI (g 16 0 + 1))) = xJ N := by rw [xJ_sI', xJ_sP']
  have lK : xK (sI (sP N 1800002 (g 16 0) (some (200000 + g 16 0))) 8 10 800000 (nI (g 16 0 + 1))) = xK N := by rw [xK_sI', xK_sP']
  have lN : xn (sI (sP N 1800002 (g 16 0) (some (200000 + g 16 0))) 8 10 800000 (nI (g 16 0 + 1))) = xn N := by rw [xn_sI', xn_sP']
  generalize sI (sP N 1800002 (g 16 0) (some (200000 + g 16 0))) 8 10 800000 (nI (g 16 0 + 1)) = L at *
  have P6 := hPI.2.2.2.2.2 (g 16 0) (Nat.le_refl _)
  have Fj : ∀ f, f < g 16 0 → ∀ s, 112 ≤ s → s ≤ 117 → s ≠ 115 → newF F a b (g 16 0) z s f = F s f := fun f hf s h1 h2 h3 => by
    by_cases w : s = 112 ∨ s = 113 ∨ s = 117
    · exact nF_j (Or.inr w) (Or.inl ⟨by omega, fun q => by omega⟩)
    · exact nF_o (by omega)
  have F8 : ∀ f, f < g 16 0 → ∀ k, k < 8 → newF F a b (g 16 0) z 118 (8 * f + k) = F 118 (8 * f + k) := fun f hf k hk => nF_118 (by omega)
  have Fa : ∀ f, f < g 16 0 → newF F a b (g 16 0) z 111 (2 * f) = F 111 (2 * f) ∧ newF F a b (g 16 0) z 111 (2 * f + 1) = F 111 (2 * f + 1) := fun f hf => ⟨nF_j (Or.inl rfl) (Or.inr ⟨rfl, by omega, by omega⟩), nF_j (Or.inl rfl) (Or.inr ⟨rfl, by omega, by omega⟩)⟩
  have leE : ∀ i, i < 4 → (leag (newF F a b (g 16 0) z) (newG g a b) i ↔ leag F g i) := fun i hi => by
    unfold leag
    rw [wG_o (by decide)]
    have := (hPI.2.1 i hi).2.2.1.2
    by_cases e : g 1 i = 0
    · rw [e]; exact ⟨fun q => absurd rfl q.1, fun q => absurd rfl q.1⟩
    · rw [Fj _ (by omega) 112 (by decide) (by decide) (by decide)]
  have wo := fun s j (q : s ≠ 16 ∧ s ≠ 20 ∧ s ≠ 21 ∧ s ≠ 22 ∧ s ≠ 23) => wG_o (g := g) (a := a) (b := b) (s := s) (j := j) q
  refine ⟨SH_t j1 lK lN (fun c k a hc => by rw [lR]) (fun a i ha => lP _ _ (fun w => by omega)), ⟨⟨?_, fun i hi => ?_, fun v hv => ?_, fun v w hv hw => ?_, fun f hf => ?_, fun f hf => ?_⟩, ⟨fun j hj => ?_, fun i hi hz => ?_, fun s hs => ?_, fun i hi => ?_, fun v hv => ?_⟩, fun c' hc' => ?_⟩, ⟨⟨⟨?_, ?_⟩, ?_, ?_⟩, Zd_t j3 (fun i => by rw [lA]) (owe_t (fun j => nF_o (by decide)) (fun j => nF_o (by decide))), fun c' hc' => ?_⟩, ⟨fun i hi => ?_, Zc_t j6 (fun k a => ⟨lI _ _ _ (fun w => absurd w.1 (by decide)), lI _ _ _ (fun w => absurd w.1 (by decide))⟩) (fun k a => by rw [lR]) (fun u => ⟨nF_o (by decide), nF_o (by decide)⟩) (fun u => ⟨wo _ _ (by decide), wo _ _ (by decide)⟩), fun f hf => ?_⟩, ⟨Zr_t j8 (fun j _ => by rw [lK]) (fun k a => lI _ _ _ (fun w => absurd w.1 (by decide))) (fun i => lP _ _ (fun w => absurd w.1 (by decide))) (fun j => rfl) (wo _ _ (by decide)) (fun s j h1 h2 => wo _ _ (by omega)), Zs_t j9 (fun j _ => by rw [lK]) (fun k a => lI _ _ _ (fun w => absurd w.1 (by decide))) (fun i => lP _ _ (fun w => absurd w.1 (by decide))) (wo _ _ (by decide)) (fun s j h1 h2 => wo _ _ (by omega)), Zl_t j10 (fun j _ => by rw [lK]) (fun k a => lI _ _ _ (fun w => absurd w.1 (by decide))) (fun i => lP _ _ (fun w => absurd w.1 (by decide))) (fun j => rfl) (wo _ _ (by decide)) (fun j => wo _ _ (by decide))⟩, ⟨fun f h1 h2 => ?_, fun j h1 h2 => ?_, fun j h1 h2 => ?_, fun j h1 h2 => ?_⟩, ?_⟩
  · rw [nF_o (by decide), nF_10, wG_16, wo _ _ (by decide)]; exact ⟨hPI.1.1, rfl, by omega⟩
  · rw [nF_o (by decide), nF_o (by decide), nF_o (by decide), nF_o (by decide), wo 0 _ (by decide), wo 1 _ (by decide), wG_16, wo 24 _ (by decide), wo 15 _ (by decide)]
    have := hPI.2.1 i hi
    refine ⟨this.1, this.2.1, ⟨this.2.2.1.1, by omega⟩, this.2.2.2.1, this.2.2.2.2.1, fun q => ?_⟩
    rw [wG_j (by omega) (by decide)]
    exact this.2.2.2.2.2 q
  · rw [nF_o (by decide), nF_o (by decide), wo _ _ (by decide)]; exact hPI.2.2.1 v hv
  · rw [wo _ _ (by decide), wo _ _ (by decide)]; exact hPI.2.2.2.1 v w hv hw
  · rw [wG_16] at hf
    by_cases e : f = g 16 0
    · subst e
      unfold FrP
      rw [nF_a, nF_b, nF_112, nF_113, nF_117, nF_o (s := 114) (by decide), nF_o (s := 116) (by decide), P6.2.1, P6.2.2.1, wG_20, wG_21, wG_22, wG_23]
      have sp := fun j (hj : j < 8) => nF_sp (F := F) (a := a) (b := b) (n := g 16 0) (z := z) hj
      refine ⟨⟨⟨rfl, ha⟩, ⟨rfl, hb⟩, hz, ⟨rfl, by decide⟩, Or.inl rfl, Or.inl rfl⟩, ⟨fun k hk => Or.inr ⟨spN k, spN_lt k, sp k hk⟩, fun i j hi hj => ?_, ?_⟩, Or.inr (Or.inl ⟨rfl, rfl, rfl, fun q => ?_⟩)⟩
      · rw [sp i hi, sp j hj]
        exact fun q _ => spN_inj i hi j hj ((nI_eq (by have := spN_lt i; omega) (by have := spN_lt j; omega)).mp q)
      · have := sp 0 (by decide)
        rw [Nat.add_zero] at this
        rw [this]
        decide
      · rcases lowA_spec (p := fun k => ¬ newF F a b (g 16 0) z 118 (8 * g 16 0 + k) < 0) (Nat.le_refl 7) with ⟨-, h2⟩ | ⟨k, -, h2, -, h4⟩
        · exact h2 1 (by decide) (by decide) (by rw [sp 1 (by decide)]; decide)
        · exact nI_nm1 (by omega) (h4.symm.trans q)
    · have f9 : f < g 16 0 := by omega
      exact FrP_f (hPI.2.2.2.2.1 f f9) (Fa f f9).1 (Fa f f9).2 (Fj f f9) (F8 f f9) (fun s h1 h2 => wG_j e (by omega)) (fun i => wo _ _ (by decide))
  · rw [wG_16] at hf
    rw [nF_j (Or.inr (Or.inr (Or.inl rfl))) (Or.inl ⟨by omega, fun q => absurd q (by decide)⟩), nF_o (by decide), nF_o (by decide), nF_o (by decide), nF_o (by decide)]
    exact hPI.2.2.2.2.2 f (by omega)
  · rw [wo _ _ (by decide)] at hj
    rw [lmS_c (g := g) (fun s _ => ⟨wo _ _ (by decide), wo _ _ (by decide), wo _ _ (by decide)⟩), wo 6 _ (by decide), wo 7 _ (by decide), wo 8 _ (by decide), wo 9 _ (by decide), wo 10 _ (by decide), wo 15 _ (by decide), wo 18 _ (by decide)]
    exact hPG.1 j hj
  · rw [wo _ _ (by decide)] at hz
    rw [lmS_c (g := g) (fun s _ => ⟨wo _ _ (by decide), wo _ _ (by decide), wo _ _ (by decide)⟩), wo 0 _ (by decide), wo 2 _ (by decide), wo 6 _ (by decide), wo 7 _ (by decide), wo 8 _ (by decide), wo 9 _ (by decide), wo 15 _ (by decide), wo 17 _ (by decide), wo 18 _ (by decide), wo 24 _ (by decide)]
    exact hPG.2.1 i hi hz
  · rw [wo 18 _ (by decide)] at hs
    have := hPG.2.2.1 s hs
    rw [wo 12 _ (by decide), wo 13 _ (by decide), wo 11 _ (by decide), wo 15 _ (by decide), wo 3 _ (by decide), leE _ this.1.2]
    exact this
  · rw [leE i hi, wo 3 _ (by decide), wo 18 _ (by decide), wo 13 _ (by decide), wo 11 _ (by decide)]
    exact hPG.2.2.2.1 i hi
  · rw [wo 4 _ (by decide), wo 5 _ (by decide), wo 19 _ (by decide), wo 14 _ (by decide)]
    exact hPG.2.2.2.2 v hv
  · rw [wo 17 _ (by decide), wo 19 _ (by decide), smR_c (g := g) (A := A) (fun j _ => ⟨wo _ _ (by decide), wo _ _ (by decide), rfl⟩), smL_c (g := g) (A := A) (fun l _ => ⟨wo _ _ (by decide), rfl⟩), hZo c' hc', owe_t (F' := newF F a b (g 16 0) z) (F := F) (fun j => nF_o (by decide)) (fun j => nF_o (by decide))]
  · rw [mI0, wG_16]
  · rw [lI _ _ _ (by decide), wo _ _ (by decide)]; exact j2.1.2
  · rw [lI _ _ _ (by decide), lI _ _ _ (by decide), wo _ _ (by decide), wo _ _ (by decide)]; exact j2.2.1
  · rw [lI _ _ _ (by decide), lI _ _ _ (by decide), nF_o (by decide), wo _ _ (by decide)]; exact j2.2.2
  · rw [lA, wG_16, j4 c' hc']
    have e1 : wN (newF F a b (g 16 0) z) (g 16 0 + 1) c' = wN (newF F a b (g 16 0) z) (g 16 0) c' + 0 := cnt_f (fun q => by rw [nF_117] at q; exact nI_nm1 (by omega) q.2.symm)
    have e2 : wN (newF F a b (g 16 0) z) (g 16 0) c' = wN F (g 16 0) c' := cnt_congr (fun j hj => by rw [Fj j hj 112 (by decide) (by decide) (by decide), Fj j hj 117 (by decide) (by decide) (by decide)])
    rw [e1, e2, Nat.add_zero]
  · have := j5 i hi
    rw [lI 7 0 _ (fun w => absurd w.1 (by decide)), lI 7 2 _ (fun w => absurd w.1 (by decide)), lR, b2_eq (q := F 102 i = 0) (by rw [nF_o (by decide)]), wo 0 _ (by decide), wo 1 _ (by decide), wo 2 _ (by decide), wo 3 _ (by decide), nF_o (s := 105) (by decide), leE i hi]
    exact this
  · rw [wG_16] at hf
    unfold FS
    rw [lK, lN, lR, lI 2 0 _ (fun w => absurd w.1 (by decide)), lI 2 1 _ (fun w => absurd w.1 (by decide)), lI 2 2 _ (fun w => absurd w.1 (by decide)), lI 2 3 _ (fun w => absurd w.1 (by decide)), lA]
    by_cases e : f = g 16 0
    · subst e
      rw [wG_23, nF_a, nF_b, nF_112, mP0]
      refine ⟨⟨kp, re, ke, ne⟩, rfl, ⟨i0, i1, i2, i3⟩, ⟨fun k h1 h2 => ?_, fun j hj => by rw [ae j hj, nF_sp hj]⟩, fun _ => r5, fun q => absurd rfl q⟩
      rw [lI 2 k _ (fun w => absurd w.1 (by decide))]
      by_cases e10 : k = 10
      · subst e10
        exact i10.trans nF_117.symm
      · rw [i69 k h1 (by omega)]
        have : k = 6 ∨ k = 7 ∨ k = 8 ∨ k = 9 := by omega
        rcases this with rfl | rfl | rfl | rfl
        · exact ((nF_o (by decide) : newF F a b (g 16 0) z 114 (g 16 0) = _).trans P6.2.1).symm
        · exact ((nF_o (by decide) : newF F a b (g 16 0) z 116 (g 16 0) = _).trans P6.2.2.1).symm
        · exact ((nF_o (by decide) : newF F a b (g 16 0) z 115 (2 * g 16 0) = _).trans P6.2.2.2.1).symm
        · exact ((nF_o (by decide) : newF F a b (g 16 0) z 115 (2 * g 16 0 + 1) = _).trans P6.2.2.2.2).symm
    · have f9 : f < g 16 0 := by omega
      have := j7 f f9
      rw [wG_j e (by decide), (Fa f f9).1, (Fa f f9).2, Fj f f9 112 (by decide) (by decide) (by decide), lP _ _ (fun w => e w.2)]
      refine ⟨this.1, this.2.1, this.2.2.1, ⟨fun k h1 h2 => ?_, fun j hj => by rw [F8 f f9 j hj]; exact this.2.2.2.1.2 j hj⟩, this.2.2.2.2⟩
      rw [lI 2 k _ (fun w => absurd w.1 (by decide))]
      refine (this.2.2.2.1.1 k h1 h2).trans ?_
      have : k = 6 ∨ k = 7 ∨ k = 8 ∨ k = 9 ∨ k = 10 := by omega
      rcases this with rfl | rfl | rfl | rfl | rfl
      · exact (nF_o (by decide) : newF F a b (g 16 0) z 114 f = _).symm
      · exact (nF_o (by decide) : newF F a b (g 16 0) z 116 f = _).symm
      · exact (nF_o (by decide) : newF F a b (g 16 0) z 115 (2 * f) = _).symm
      · exact (nF_o (by decide) : newF F a b (g 16 0) z 115 (2 * f + 1) = _).symm
      · exact (Fj f f9 117 (by decide) (by decide) (by decide)).symm
  · rw [wG_16] at h1
    rw [lK, xk _ (by omega) (by omega), xk _ (by omega) (by omega)]; exact hZfr.1 f (by omega) h2
  · rw [wo _ _ (by decide)] at h1
    rw [lK, xk _ (by omega) (by omega)]; exact hZfr.2.1 j h1 h2
  · rw [wo _ _ (by decide)] at h1
    rw [lK, xk _ (by omega) (by omega)]; exact hZfr.2.2.1 j h1 h2
  · rw [wo _ _ (by decide)] at h1
    rw [lK, xk _ (by omega) (by omega)]; exact hZfr.2.2.2 j h1 h2
  · unfold Zbd at hZbd ⊢
    rw [wo _ _ (by decide), wo _ _ (by decide), wo _ _ (by decide)]
    exact hZbd
