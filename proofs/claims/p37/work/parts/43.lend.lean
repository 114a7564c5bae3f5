-- ===== lend, takeBack =====
theorem lmS_c {g g' : GN} {i st en : Nat} : ∀ {m : Nat}, (∀ s, s < m → g' 11 s = g 11 s ∧ g' 12 s = g 12 s ∧ g' 13 s = g 13 s) → lmS g' i st en m = lmS g i st en m
  | 0, _ => rfl
  | m + 1, h => by
    show lmS g' i st en m + _ = lmS g i st en m + _
    rw [lmS_c (fun s hs => h s (by omega)), (h m (by omega)).1, (h m (by omega)).2.1, (h m (by omega)).2.2]
theorem smR_c {g g' : GN} {A A' : FT} {c : Nat} : ∀ {m : Nat}, (∀ j, j < m → g' 7 j = g 7 j ∧ g' 9 j = g 9 j ∧ A' 0 j = A 0 j) → smR g' A' c m = smR g A c m
  | 0, _ => rfl
  | m + 1, h => by
    show smR g' A' c m + _ = smR g A c m + _
    rw [smR_c (fun s hs => h s (by omega)), (h m (by omega)).1, (h m (by omega)).2.1, (h m (by omega)).2.2]
theorem smL_c {g g' : GN} {A A' : FT} {c : Nat} : ∀ {m : Nat}, (∀ l, l < m → g' 14 l = g 14 l ∧ A' 1 l = A 1 l) → smL g' A' c m = smL g A c m
  | 0, _ => rfl
  | m + 1, h => by
    show smL g' A' c m + _ = smL g A c m + _
    rw [smL_c (fun s hs => h s (by omega)), (h m (by omega)).1, (h m (by omega)).2]
/-- one loan's share changes -/
theorem smL_u {g : GN} {A : FT} {c l0 : Nat} {v : Int32} : ∀ {m : Nat}, smL g (u2 A 1 l0 v) c m = smL g A c m + (if l0 < m ∧ g 14 l0 = c then v - A 1 l0 else 0)
  | 0 => by
    rw [if_neg (fun q => by omega)]
    rfl
  | m + 1 => by
    show smL g (u2 A 1 l0 v) c m + (if g 14 m = c then u2 A 1 l0 v 1 m else 0) = smL g A c m + (if g 14 m = c then A 1 m else 0) + _
    rw [smL_u]
    by_cases e : m = l0
    · subst e
      rw [u2_e, if_neg (fun q => by omega), Int32.add_zero]
      by_cases w : g 14 m = c
      · rw [if_pos w, if_pos w, if_pos ⟨Nat.lt_succ_self m, w⟩, Int32.add_assoc, Int32.add_comm (A 1 m), Int32.sub_add_cancel]
      · rw [if_neg w, if_neg w, if_neg (fun q => w q.2), Int32.add_zero, Int32.add_zero]
    · rw [u2_j e]
      have : (l0 < m + 1 ∧ g 14 l0 = c) ↔ (l0 < m ∧ g 14 l0 = c) := ⟨fun q => ⟨by omega, q.2⟩, fun q => ⟨by omega, q.2⟩⟩
      simp only [this]
      rw [Int32.add_assoc, Int32.add_comm (if l0 < m ∧ g 14 l0 = c then v - A 1 l0 else 0), ← Int32.add_assoc]
def lnZ (Z : HS) (q c : Nat) (w : Int32) : HS := sI (sI (sI (nO Z q 3) 3 2 q (-1)) 3 0 q (nI c)) 3 1 q w
def lendZ (Z : HS) (m u c : Nat) (w d : Int32) : HS := sA (sI (sP (sR (lnZ Z (300000 + m) c w) 1 1 (100000 + u) (some (300000 + m))) 1800005 m (some (300000 + m))) 8 13 800000 (nI (m + 1))) 1800006 c d
def lendF (F : FT) (u c : Nat) : FT := u2 (u2 (thr (thr F (nI 0)) (nI 0)) 107 u (nI (c + 1))) 109 u (F 108 u)
def lendG (g : GN) (u c : Nat) : GN := u2 (u2 (u2 (u2 g 4 u (c + 1)) 5 u (g 19 0)) 14 (g 19 0) c) 19 0 (g 19 0 + 1)
theorem lnZ_AG {Z : HS} {q c : Nat} {w : Int32} (h : xK Z q = 99) : AG Z (lnZ Z q c w) := ((((AG.refl Z).nX h).sI h).sI h).sI h
theorem rF_lend {Z : HS} {m u c : Nat} {w d : Int32} (hm : m < 1000) : rF (lendZ Z m u c w d) = rF Z := by
  unfold lendZ lnZ nO
  rw [rF_sA (by decide), rF_sI (by decide), rF_sP, rF_sR, rF_sI (by decide), rF_sI (by decide), rF_sI (by decide), rF_nX (by omega) (by omega)]
theorem u2n_e {g : GN} {s j v : Nat} : u2 g s j v s j = v := if_pos ⟨rfl, rfl⟩
theorem u2n_j {g : GN} {s j s' j' v : Nat} (h : j' ≠ j) : u2 g s j v s' j' = g s' j' := if_neg (fun q => h q.2)
theorem u2n_s {g : GN} {s j s' j' v : Nat} (h : s' ≠ s) : u2 g s j v s' j' = g s' j' := if_neg (fun q => h q.1)
theorem lend4 {g : GN} {u c v : Nat} : lendG g u c 4 v = if v = u then c + 1 else g 4 v := by
  unfold lendG
  rw [u2n_s (by decide), u2n_s (by decide), u2n_s (by decide)]
  by_cases e : v = u
  · rw [if_pos e, e, u2n_e]
  · rw [if_neg e, u2n_j e]
theorem lend5 {g : GN} {u c v : Nat} : lendG g u c 5 v = if v = u then g 19 0 else g 5 v := by
  unfold lendG
  rw [u2n_s (by decide), u2n_s (by decide)]
  by_cases e : v = u
  · rw [if_pos e, e, u2n_e]
  · rw [if_neg e, u2n_j e, u2n_s (by decide)]
theorem lend14 {g : GN} {u c l : Nat} : lendG g u c 14 l = if l = g 19 0 then c else g 14 l := by
  unfold lendG
  rw [u2n_s (by decide)]
  by_cases e : l = g 19 0
  · rw [if_pos e, e, u2n_e]
  · rw [if_neg e, u2n_j e, u2n_s (by decide), u2n_s (by decide)]
theorem owe_lend {F : FT} {u c c' : Nat} (hu : u < 6) (c8 : c < 8) (c8' : c' < 8) (h0 : F 107 u = nI 0) (hq : lastW (fun k => F 107 k = nI (c + 1)) 6 = -1) : owe (lendF F u c) c' = owe F c' + (if c = c' then nI 20 else 0) := by
  have e107 : ∀ k, lendF F u c 107 k = if k = u then nI (c + 1) else F 107 k := by
    intro k
    unfold lendF
    rw [u2_s (by decide)]
    by_cases e : k = u
    · rw [if_pos e, e, u2_e]
    · rw [if_neg e, u2_j e]; rfl
  unfold owe
  show F 106 c' + _ = _
  by_cases e : c = c'
  · subst e
    have a : (if 0 ≤ lastW (fun k => F 107 k = nI (c + 1)) 6 then nI 20 else nI 0) = nI 0 := if_neg (by rw [hq]; decide)
    have b : (if 0 ≤ lastW (fun k => lendF F u c 107 k = nI (c + 1)) 6 then nI 20 else nI 0) = nI 20 := by
      refine if_pos ?_
      rcases lastW_spec (fun k => lendF F u c 107 k = nI (c + 1)) 6 with ⟨-, h2⟩ | ⟨j, h1, -, h3, -⟩
      · exact absurd ((e107 u).trans (if_pos rfl)) (h2 u hu)
      · rw [h3]; exact nI_pos' (by omega)
    have d : (if c = c then nI 20 else (0 : Int32)) = nI 20 := if_pos rfl
    rw [a, b, d, show (nI 0 : Int32) = 0 from rfl, Int32.add_zero]
  · rw [if_neg e, Int32.add_zero, lastW_congr (q := fun k => F 107 k = nI (c' + 1)) (fun j _ => ?_)]
    rw [e107]
    by_cases w : j = u
    · rw [if_pos w, w, h0]
      exact ⟨fun q => absurd ((nI_eq (by omega) (by omega)).mp q) (by omega), fun q => absurd ((nI_eq (by omega) (by omega)).mp q) (by omega)⟩
    · rw [if_neg w]
-- ----- groups over to another state -----
theorem xI_sI {X : HS} {c k a : Nat} {v : Int32} {c' k' a' : Nat} (h : ¬ (c' = c ∧ k' = k ∧ a' = a)) : xI (sI X c k a v) c' k' a' = xI X c' k' a' := if_neg h
theorem xI_sIe {X : HS} {c k a : Nat} {v : Int32} : xI (sI X c k a v) c k a = v := if_pos ⟨rfl, rfl, rfl⟩
theorem xR_sR {X : HS} {c k a : Nat} {v : Option Nat} {c' k' a' : Nat} (h : ¬ (c' = c ∧ k' = k ∧ a' = a)) : xR (sR X c k a v) c' k' a' = xR X c' k' a' := if_neg h
theorem xR_sRe {X : HS} {c k a : Nat} {v : Option Nat} : xR (sR X c k a v) c k a = v := if_pos ⟨rfl, rfl, rfl⟩
theorem xA_sA {X : HS} {a i : Nat} {v : Int32} {a' i' : Nat} (h : ¬ (a' = a ∧ i' = i)) : xA (sA X a i v) a' i' = xA X a' i' := if_neg h
theorem xA_sAe {X : HS} {a i : Nat} {v : Int32} : xA (sA X a i v) a i = v := if_pos ⟨rfl, rfl⟩
theorem xP_sP {X : HS} {a i : Nat} {v : Option Nat} {a' i' : Nat} (h : ¬ (a' = a ∧ i' = i)) : xP (sP X a i v) a' i' = xP X a' i' := if_neg h
theorem xP_sPe {X : HS} {a i : Nat} {v : Option Nat} : xP (sP X a i v) a i = v := if_pos ⟨rfl, rfl⟩
theorem xI_sR' {X : HS} {c k a : Nat} {w : Option Nat} : xI (sR X c k a w) = xI X := rfl
theorem xI_sA' {X : HS} {b i : Nat} {v : Int32} : xI (sA X b i v) = xI X := rfl
theorem xI_sP' {X : HS} {b i : Nat} {w : Option Nat} : xI (sP X b i w) = xI X := rfl
theorem xI_sJ' {X : HS} {b i : Nat} {y : Int64} : xI (sJ X b i y) = xI X := rfl
theorem xR_sI' {X : HS} {c k a : Nat} {v : Int32} : xR (sI X c k a v) = xR X := rfl
theorem xR_sA' {X : HS} {b i : Nat} {v : Int32} : xR (sA X b i v) = xR X := rfl
theorem xR_sP' {X : HS} {b i : Nat} {w : Option Nat} : xR (sP X b i w) = xR X := rfl
theorem xR_sJ' {X : HS} {b i : Nat} {y : Int64} : xR (sJ X b i y) = xR X := rfl
theorem xA_sI' {X : HS} {c k a : Nat} {v : Int32} : xA (sI X c k a v) = xA X := rfl
theorem xA_sR' {X : HS} {c k a : Nat} {w : Option Nat} : xA (sR X c k a w) = xA X := rfl
theorem xA_sP' {X : HS} {b i : Nat} {w : Option Nat} : xA (sP X b i w) = xA X := rfl
theorem xA_sJ' {X : HS} {b i : Nat} {y : Int64} : xA (sJ X b i y) = xA X := rfl
theorem xP_sI' {X : HS} {c k a : Nat} {v : Int32} : xP (sI X c k a v) = xP X := rfl
theorem xP_sR' {X : HS} {c k a : Nat} {w : Option Nat} : xP (sR X c k a w) = xP X := rfl
theorem xP_sA' {X : HS} {b i : Nat} {v : Int32} : xP (sA X b i v) = xP X := rfl
theorem xP_sJ' {X : HS} {b i : Nat} {y : Int64} : xP (sJ X b i y) = xP X := rfl
theorem xJ_sI' {X : HS} {c k a : Nat} {v : Int32} : xJ (sI X c k a v) = xJ X := rfl
theorem xJ_sR' {X : HS} {c k a : Nat} {w : Option Nat} : xJ (sR X c k a w) = xJ X := rfl
theorem xJ_sA' {X : HS} {b i : Nat} {v : Int32} : xJ (sA X b i v) = xJ X := rfl
theorem xJ_sP' {X : HS} {b i : Nat} {w : Option Nat} : xJ (sP X b i w) = xJ X := rfl
theorem xK_sI' {X : HS} {c k a : Nat} {v : Int32} : xK (sI X c k a v) = xK X := rfl
theorem xK_sR' {X : HS} {c k a : Nat} {w : Option Nat} : xK (sR X c k a w) = xK X := rfl
theorem xK_sA' {X : HS} {b i : Nat} {v : Int32} : xK (sA X b i v) = xK X := rfl
theorem xK_sP' {X : HS} {b i : Nat} {w : Option Nat} : xK (sP X b i w) = xK X := rfl
theorem xK_sJ' {X : HS} {b i : Nat} {y : Int64} : xK (sJ X b i y) = xK X := rfl
theorem xn_sI' {X : HS} {c k a : Nat} {v : Int32} : xn (sI X c k a v) = xn X := rfl
theorem xn_sR' {X : HS} {c k a : Nat} {w : Option Nat} : xn (sR X c k a w) = xn X := rfl
theorem xn_sA' {X : HS} {b i : Nat} {v : Int32} : xn (sA X b i v) = xn X := rfl
theorem xn_sP' {X : HS} {b i : Nat} {w : Option Nat} : xn (sP X b i w) = xn X := rfl
theorem xn_sJ' {X : HS} {b i : Nat} {y : Int64} : xn (sJ X b i y) = xn X := rfl
theorem SH_t {Z Z' : HS} (h : SH Z) (hK : xK Z' = xK Z) (hn : xn Z' = xn Z) (hR : ∀ c k a, c = 8 ∨ c = 0 ∨ c = 4 ∨ c = 9 → xR Z' c k a = xR Z c k a) (hP : ∀ a i, a < 1800002 → xP Z' a i = xP Z a i) : SH Z' := by
  obtain ⟨⟨g1, g2, g3, g4⟩, ⟨g5, g6⟩, g7, g8, g9, g10, g11⟩ := h
  have r8 := fun k => hR 8 k 800000 (Or.inl rfl)
  have tRS : ∀ {c q b : Nat}, RS c q b Z → c = 0 ∨ c = 4 → RS c q b Z' := by
    intro c q b w hc
    have rr := fun k => hR c k q (by omega)
    unfold RS
    rw [hK, hn]
    refine ⟨w.1, w.2.1, fun k h1 h2 => ?_⟩
    rw [rr k]
    exact w.2.2 k h1 h2
  refine ⟨⟨by rw [hK]; exact g1, fun k hk => ?_, by rw [r8]; exact g3, by rw [r8]; exact g4⟩, ⟨tRS g5 (Or.inl rfl), tRS g6 (Or.inr rfl)⟩, fun i hi => ?_, fun i hi => ?_, ?_, ?_⟩
  · rw [r8, hK, hn]; exact g2 k hk
  · rw [hK, hP _ _ (by decide)]; exact g7 i hi
  · rw [hK, hP _ _ (by decide)]; exact g8 i hi
  · exact trivial
  · exact ⟨trivial, trivial⟩
theorem Zh_t {Z Z' : HS} {F F' : FT} {g g' : GN} (h : Zh Z F g) (hI : ∀ k, xI Z' 8 k 800000 = xI Z 8 k 800000) (e1 : F' 1 0 = F 1 0) (e2 : ∀ s, 15 ≤ s → s ≤ 19 → g' s 0 = g s 0) : Zh Z' F' g' := by
  unfold Zh
  rw [hI, hI, hI, hI, hI, hI, e1, e2 15 (by decide) (by decide), e2 16 (by decide) (by decide), e2 17 (by decide) (by decide), e2 18 (by decide) (by decide), e2 19 (by decide) (by decide)]
  exact h
theorem Zd_t {Z Z' : HS} {F F' : FT} (h : Zd Z F) (hA : ∀ i, xA Z' 1800006 i = xA Z 1800006 i) (e : ∀ c, owe F' c = owe F c) : Zd Z' F' := fun c hc => by rw [hA, e]; exact h c hc
theorem Zw_t {Z Z' : HS} {F F' : FT} {g g' : GN} (h : Zw Z F g) (hA : ∀ i, xA Z' 1800007 i = xA Z 1800007 i) (e : ∀ c, wN F' (g' 16 0) c = wN F (g 16 0) c) : Zw Z' F' g' := fun c hc => by rw [hA, e]; exact h c hc
theorem Zt_t {Z Z' : HS} {F F' : FT} {g g' : GN} (h : Zt Z F g) (hI : ∀ k a, xI Z' 7 k a = xI Z 7 k a) (hR : ∀ k a, xR Z' 7 k a = xR Z 7 k a) (e1 : ∀ i, i < 4 → F' 102 i = F 102 i ∧ F' 105 i = F 105 i) (e2 : ∀ j, F' 112 j = F 112 j) (e3 : ∀ s, s < 4 → ∀ i, g' s i = g s i) : Zt Z' F' g' := by
  intro i hi
  have := h i hi
  unfold leag at this ⊢
  rw [hI, hI, hR, hR, hR, b2_eq (q := F 102 i = 0) (by rw [(e1 i hi).1]), (e1 i hi).2, e3 0 (by decide), e3 1 (by decide), e3 2 (by decide), e3 3 (by decide), e2]
  exact this
theorem Zc_t {Z Z' : HS} {F F' : FT} {g g' : GN} (h : Zc Z F g) (hI : ∀ k a, xI Z' 1 k a = xI Z 1 k a ∧ xI Z' 3 k a = xI Z 3 k a) (hR : ∀ k a, xR Z' 1 k a = xR Z 1 k a) (e1 : ∀ u, F' 108 u = F 108 u ∧ F' 109 u = F 109 u) (e2 : ∀ u, g' 4 u = g 4 u ∧ g' 5 u = g 5 u) : Zc Z' F' g' := by
  intro u hu
  have := h u hu
  rw [(hI 0 _).1, (hI 1 _).2, (hI 2 _).2, hR, (e1 u).1, (e1 u).2, (e2 u).1, (e2 u).2]
  exact this
theorem Zf_t {Z Z' : HS} {F F' : FT} {g g' : GN} (h : Zf Z F g) (n20 : g 16 0 ≤ 20) (hK : ∀ f, f < 20 → xK Z' (200000 + f) = xK Z (200000 + f) ∧ xK Z' (1200000 + f) = xK Z (1200000 + f) ∧ xn Z' (1200000 + f) = xn Z (1200000 + f)) (hI : ∀ k f, f < 20 → xI Z' 2 k (200000 + f) = xI Z 2 k (200000 + f)) (hR : ∀ k f, f < 20 → xR Z' 2 k (200000 + f) = xR Z 2 k (200000 + f)) (hA : ∀ f j, f < 20 → xA Z' (1200000 + f) j = xA Z (1200000 + f) j) (hP : ∀ f, xP Z' 1800002 f = xP Z 1800002 f) (e1 : ∀ s j, 111 ≤ s → s ≤ 118 → F' s j = F s j) (e2 : g' 16 0 = g 16 0 ∧ ∀ f, g' 23 f = g 23 f) : Zf Z' F' g' := by
  refine Zf_c (F := F) e1 ?_
  intro f hf
  rw [e2.1] at hf
  have f20 : f < 20 := by omega
  have := h f hf
  unfold FS at this ⊢
  rw [(hK f f20).1, (hK f f20).2.1, (hK f f20).2.2, hP, hI _ _ f20, hI _ _ f20, hI _ _ f20, hI _ _ f20, hR _ _ f20, hR _ _ f20, e2.2]
  refine ⟨this.1, this.2.1, this.2.2.1, ⟨fun k h1 h2 => ?_, fun j hj => ?_⟩, this.2.2.2.2⟩
  · rw [hI _ _ f20]; exact this.2.2.2.1.1 k h1 h2
  · rw [hA _ _ f20]; exact this.2.2.2.1.2 j hj
theorem Zr_t {Z Z' : HS} {A A' : FT} {g g' : GN} (h : Zr Z A g) (hK : ∀ j, j < g 17 0 → xK Z' (500000 + j) = xK Z (500000 + j)) (hI : ∀ k a, xI Z' 5 k a = xI Z 5 k a) (hP : ∀ i, xP Z' 1800003 i = xP Z 1800003 i) (e1 : ∀ j, A' 0 j = A 0 j) (e2 : g' 17 0 = g 17 0) (e3 : ∀ s j, 6 ≤ s → s ≤ 10 → g' s j = g s j) : Zr Z' A' g' := by
  intro j hj
  rw [e2] at hj
  have := h j hj
  rw [hK j hj, hP, hI, hI, hI, hI, hI, e1, e3 6 _ (by decide) (by decide), e3 7 _ (by decide) (by decide), e3 8 _ (by decide) (by decide), e3 9 _ (by decide) (by decide), e3 10 _ (by decide) (by decide)]
  exact this
theorem Zs_t {Z Z' : HS} {g g' : GN} (h : Zs Z g) (hK : ∀ j, j < g 18 0 → xK Z' (600000 + j) = xK Z (600000 + j)) (hI : ∀ k a, xI Z' 6 k a = xI Z 6 k a) (hP : ∀ i, xP Z' 1800004 i = xP Z 1800004 i) (e2 : g' 18 0 = g 18 0) (e3 : ∀ s j, 11 ≤ s → s ≤ 13 → g' s j = g s j) : Zs Z' g' := by
  intro j hj
  rw [e2] at hj
  have := h j hj
  rw [hK j hj, hP, hI, hI, hI, e3 11 _ (by decide) (by decide), e3 12 _ (by decide) (by decide), e3 13 _ (by decide) (by decide)]
  exact this
theorem Zl_t {Z Z' : HS} {A A' : FT} {g g' : GN} (h : Zl Z A g) (hK : ∀ j, j < g 19 0 → xK Z' (300000 + j) = xK Z (300000 + j)) (hI : ∀ k a, xI Z' 3 k a = xI Z 3 k a) (hP : ∀ i, xP Z' 1800005 i = xP Z 1800005 i) (e1 : ∀ j, A' 1 j = A 1 j) (e2 : g' 19 0 = g 19 0) (e3 : ∀ j, g' 14 j = g 14 j) : Zl Z' A' g' := by
  intro j hj
  rw [e2] at hj
  have := h j hj
  rw [hK j hj, hP, hI, hI, hI, e1, e3]
  exact this
theorem Zfr_t {Z Z' : HS} {g g' : GN} (h : Zfr Z g) (hK : ∀ a, xK Z' a = xK Z a) (e : ∀ s, 16 ≤ s → s ≤ 19 → g' s 0 = g s 0) : Zfr Z' g' := by
  unfold Zfr
  simp only [hK, e 16 (by decide) (by decide), e 17 (by decide) (by decide), e 18 (by decide) (by decide), e 19 (by decide) (by decide)]
  exact h
/-- the rentings' part of what holds, when neither rentings nor stays nor loans change -/
theorem PG_t {F F' : FT} {g g' : GN} (h : PG F g) (e0 : ∀ s i, s < 4 → g' s i = g s i) (e1 : ∀ s j, 4 ≤ s → s ≤ 14 → g' s j = g s j) (e2 : ∀ s, 15 ≤ s → s ≤ 19 → g' s 0 = g s 0) (e3 : ∀ i, i < 4 → g' 24 i = g 24 i) (e4 : ∀ j, F' 112 j = F 112 j) : PG F' g' := by
  obtain ⟨h1, h2, h3, h4, h5⟩ := h
  have hl : ∀ i st en m, lmS g' i st en m = lmS g i st en m := fun i st en m => lmS_c (fun s _ => ⟨e1 11 s (by decide) (by decide), e1 12 s (by decide) (by decide), e1 13 s (by decide) (by decide)⟩)
  refine ⟨fun j hj => ?_, fun i hi => ?_, fun s hs => ?_, fun i hi => ?_, fun u hu => ?_⟩
  · rw [e2 17 (by decide) (by decide)] at hj
    rw [hl, e1 6 _ (by decide) (by decide), e1 7 _ (by decide) (by decide), e1 8 _ (by decide) (by decide), e1 9 _ (by decide) (by decide), e1 10 _ (by decide) (by decide), e2 15 (by decide) (by decide), e2 18 (by decide) (by decide)]
    exact h1 j hj
  · rw [hl, e0 0 _ (by decide), e0 2 _ (by decide), e1 6 _ (by decide) (by decide), e1 7 _ (by decide) (by decide), e1 8 _ (by decide) (by decide), e1 9 _ (by decide) (by decide), e2 15 (by decide) (by decide), e2 17 (by decide) (by decide), e2 18 (by decide) (by decide), e3 i hi]
    exact h2 i hi
  · rw [e2 18 (by decide) (by decide)] at hs
    unfold leag at h3 ⊢
    rw [e1 12 _ (by decide) (by decide), e1 13 _ (by decide) (by decide), e1 11 _ (by decide) (by decide), e2 15 (by decide) (by decide), e0 1 _ (by decide), e0 3 _ (by decide), e4]
    exact h3 s hs
  · unfold leag at h4 ⊢
    rw [e0 1 _ (by decide), e0 3 _ (by decide), e4, e2 18 (by decide) (by decide), e1 13 _ (by decide) (by decide), e1 11 _ (by decide) (by decide)]
    exact h4 i hi
  · rw [e1 4 _ (by decide) (by decide), e1 5 _ (by decide) (by decide), e2 19 (by decide) (by decide), e1 14 _ (by decide) (by decide)]
    exact h5 u hu
