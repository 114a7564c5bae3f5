-- ===== the law: what its steps stand on =====
/-- a scalar stands in its first place -/
def scF (F : FT) : FT := fun s j => if s < 100 then F s 0 else F s j
theorem rF_wM (Y : HS) (F : FT) : rF (wM Y F) = scF F := by
  funext s j
  unfold rF scF
  by_cases e : s < 100
  · rw [if_pos e, if_pos e]
    exact if_pos ⟨rfl, rfl, e⟩
  · rw [if_neg e, if_neg e]
    show (if 1900100 ≤ 1900000 + s then F (1900000 + s - 1900000) j else xA Y (1900000 + s) j) = F s j
    rw [if_pos (by omega), Nat.add_sub_cancel_left]
theorem scF_a {F : FT} {s j : Nat} (h : 100 ≤ s) : scF F s j = F s j := if_neg (by omega)
theorem scF_frP {F : FT} {g : GN} {f : Nat} (q : FrP F g f) : FrP (scF F) g f := by
  have e := fun s j (h1 : 100 ≤ s) (_ : True) => scF_a (F := F) (j := j) h1
  unfold FrP BV DB lowF at q ⊢
  simp only [e 111 _ (by decide) (by decide), e 112 _ (by decide) (by decide), e 113 _ (by decide) (by decide), e 114 _ (by decide) (by decide), e 116 _ (by decide) (by decide), e 117 _ (by decide) (by decide), e 118 _ (by decide) (by decide)]
  exact q
theorem scF_PI {F : FT} {g : GN} (q : PI F g) : PI (scF F) g := by
  obtain ⟨q1, q2, q3, q4, q5, q6⟩ := q
  have e := fun s j (h1 : 100 ≤ s) (_ : True) => scF_a (F := F) (j := j) h1
  refine ⟨?_, fun i hi => ?_, fun u hu => ?_, q4, fun f hf => scF_frP (q5 f hf), fun f hf => ?_⟩
  · exact q1
  · rw [e 102 _ (by decide) (by decide), e 103 _ (by decide) (by decide), e 104 _ (by decide) (by decide), e 105 _ (by decide) (by decide)]; exact q2 i hi
  · rw [e 107 _ (by decide) (by decide), e 108 _ (by decide) (by decide)]; exact q3 u hu
  · rw [e 113 _ (by decide) (by decide), e 114 _ (by decide) (by decide), e 116 _ (by decide) (by decide), e 115 _ (by decide) (by decide), e 115 _ (by decide) (by decide)]; exact q6 f hf
theorem scF_ow {F : FT} (c : Nat) : owe (scF F) c = owe F c := by
  have e := fun s j (h1 : 100 ≤ s) (_ : True) => scF_a (F := F) (j := j) h1
  unfold owe
  rw [e 106 _ (by decide) (by decide), lastW_congr (q := fun k => F 107 k = nI (c + 1)) (fun j _ => by rw [e 107 _ (by decide) (by decide)])]
theorem scF_wn {F : FT} (n c : Nat) : wN (scF F) n c = wN F n c := by
  have e := fun s j (h1 : 100 ≤ s) (_ : True) => scF_a (F := F) (j := j) h1
  unfold wN
  exact cnt_congr (fun j _ => by rw [e 112 _ (by decide) (by decide), e 117 _ (by decide) (by decide)])
theorem scF_pg {F : FT} {g : GN} (q : PG F g) : PG (scF F) g := by
  have e := fun j => scF_a (F := F) (s := 112) (j := j) (by decide)
  unfold PG leag at q ⊢
  simp only [e]
  exact q
theorem scF_CI {F : FT} {n : Nat} {Z : HS} {g : GN} {A : FT} (q : CI n Z F g A) : CI n Z (scF F) g A := by
  obtain ⟨q1, ⟨q2, q3, q4⟩, ⟨q5, q6, q7⟩, ⟨q8, q9, q10⟩, q11, q12⟩ := q
  have e := fun s j (h1 : 100 ≤ s) (_ : True) => scF_a (F := F) (j := j) h1
  refine ⟨q1, ⟨scF_PI q2, scF_pg q3, fun c hc => ?_⟩, ⟨?_, fun c hc => ?_, fun c hc => ?_⟩, ⟨fun i hi => ?_, fun u hu => ?_, fun f hf => ?_⟩, q11, q12⟩
  · rw [scF_ow]; exact q4 c hc
  · unfold Zh
    exact q5
  · rw [scF_ow]; exact q6 c hc
  · rw [scF_wn]; exact q7 c hc
  · have := q8 i hi
    unfold leag at this ⊢
    rw [b2_eq (q := F 102 i = 0) (by rw [e 102 _ (by decide) (by decide)]), e 105 _ (by decide) (by decide), e 112 _ (by decide) (by decide)]
    exact this
  · rw [e 108 _ (by decide) (by decide), e 109 _ (by decide) (by decide)]; exact q9 u hu
  · have := q10 f hf
    rw [e 111 _ (by decide) (by decide), e 111 _ (by decide) (by decide), e 112 _ (by decide) (by decide)]
    refine ⟨this.1, this.2.1, this.2.2.1, ⟨fun k h1 h2 => ?_, fun j hj => ?_⟩, this.2.2.2.2⟩
    · rw [e (fs k) _ (by unfold fs; split <;> decide) trivial]; exact this.2.2.2.1.1 k h1 h2
    · rw [e 118 _ (by decide) (by decide)]; exact this.2.2.2.1.2 j hj
theorem lcmp_eq {x y : Int64} (h : x = y) : lg_cmp x y = 0 := by
  subst h
  unfold lg_cmp
  simp
theorem rmB_le {R : Room} {ν : MTy} {k : Nat × Nat} {rest : List Value} {a b : Nat} (h : rmB R ν (a, b) rest = true) (h1 : k.1 ≤ a) (h2 : k.2 ≤ b) : rmB R ν k rest = true := by
  simp only [rmB, Bool.and_eq_true] at h ⊢
  refine ⟨h.1, h.2.1, Nat.ble_eq.mpr ?_, Nat.ble_eq.mpr ?_, h.2.2.2.2⟩
  · exact Nat.le_trans (Nat.add_le_add_right h1 _) (Nat.le_of_ble_eq_true h.2.2.1)
  · exact Nat.le_trans (Nat.add_le_add_right h2 _) (Nat.le_of_ble_eq_true h.2.2.2.1)
section LW
variable {Γ : GTy} {μ : MTy} {R : Room} {W : WTy} {k : Nat × Nat} {pc : Nat} {L : List (Option Value)} {st : List Value} {Y : HS}
/-- as AOK, static arrays among the locals too -/
def AOS (μ ν : MTy) (L : List (Option Value)) (rest : List Value) (Y : HS) : Prop := mA ν = true → mA μ = true ∧ (∀ r ∈ rfs L, xK Y r ≠ 99 ∨ ∃ i, i < 5 ∧ r = sid i) ∧ (∀ r ∈ rfv rest, xK Y r ≠ 99)
theorem aos0 {ν : MTy} {rest : List Value} (h : mA ν = false) : AOS μ ν L rest Y := fun h' => by rw [h] at h'; cases h'
theorem AOS.eq {ν : MTy} {rest : List Value} {α α' : Nat → Nat} {Y' X X' : HS} (h : AOS μ ν L rest Y) (C : CR Γ α Y X) (C' : CR Γ α' Y' X') (E : Ext (mA ν) α Y α' Y') : lm α' L = lm α L ∧ sm α' rest = sm α rest := by
  cases hA : mA ν
  · rw [hA] at E
    rw [E.1]
    exact ⟨rfl, rfl⟩
  · rw [hA] at E
    obtain ⟨-, h1, h2⟩ := h hA
    refine ⟨lm_eq (fun r hr => ?_), sm_eq (fun r hr => (E r (h2 r hr)).1)⟩
    rcases h1 r hr with h3 | ⟨i, hi, rfl⟩
    · exact (E r h3).1
    · exact (C'.2.2.2.2.1 i hi).trans (C.2.2.2.2.1 i hi).symm
theorem G_contL {ν : MTy} {rest : List Value} {QV' : Option Value → HS → Prop} {k' : Nat × Nat} {pc' : Nat} (hA : AOS μ ν L rest Y) (kk : ∀ (v : Option Value) (Y' : HS), QV' v Y' → G Γ μ R W k' pc' L (v.toList ++ rest) Y')
    {α0 : Nat → Nat} {Y0 : HS} {α : Nat → Nat} {X : HS} (C : CR Γ α Y X) (E : Ext (mA μ) α0 Y0 α Y) : ∀ (v : Option Value) (X' : HS), QVc Γ (mA ν) α Y QV' v X' → J Γ μ R (W α0 Y0) k' pc' (lm α L) (v.toList ++ sm α rest) X' := by
  rintro v X' ⟨α', Y', u, rfl, hq, C', E'⟩
  obtain ⟨e1, e2⟩ := hA.eq C C' E'
  have h := kk u Y' hq α0 Y0 α' X' C' (E.trans E' (fun h => (hA h).1))
  rw [e1] at h
  have e3 : (u.map (cv α')).toList ++ sm α rest = sm α' (u.toList ++ rest) := by
    rw [← e2]
    cases u <;> simp [sm]
  rw [e3]
  exact h
theorem K_LW {ν : MTy} {n idx : Nat} {k' : Nat × Nat} {as rest : List Value} {st0 : List Value} {QV' : Option Value → HS → Prop} (hM : MOW ν n) (hl : LkS (mN μ).cls idx ν) (hq : rmB R ν k rest = true) (hn : as.length = n) (hst : st0 = as.reverse ++ rest) (hA : AOS μ ν L rest Y) (hd : decode (mC μ) pc = .ok (.invokestatic idx, 3)) (hc : Tw Γ ν as Y QV' noX) (hk : (k.1 + mM ν, k.2 + mS ν) = k')
    (kk : ∀ (v : Option Value) (Y' : HS), QV' v Y' → G Γ μ R W k' (pc + 3) L (v.toList ++ rest) Y') : G Γ μ R W k pc L st0 Y := by
  subst hk
  exact fun α0 Y0 α X C E => J_callSW hM hl (rmB_ok hq).1 (as := sm α as) (by simpa [sm] using hn) (sm_stS hst) (sm_8 (rmB_ok hq).2) hd (hc α X C) (G_contL hA kk C E) (by rintro N X' ⟨α', Y', h, -⟩; exact h.elim)
theorem K_LI {ν : MTy} {n idx b : Nat} {k' : Nat × Nat} {as rest : List Value} {st0 : List Value} {Z : HS} (hM : MOK ν n) (hl : LkI (mN μ).cls idx ν) (hq : rmB R ν k rest = true) (hn : as.length = n) (hst : st0 = as.reverse ++ .ref b :: rest) (hA : AOS μ ν L rest Y) (hd : decode (mC μ) pc = .ok (.invokespecial idx, 3)) (hc : Tn Γ ν (.ref b :: as) Y (rt none Z)) (hk : (k.1 + mM ν, k.2 + mS ν) = k')
    (kk : G Γ μ R W k' (pc + 3) L rest Z) : G Γ μ R W k pc L st0 Y := by
  subst hk
  exact fun α0 Y0 α X C E => J_callI hM hl (rmB_ok hq).1 (as := sm α as) (by simpa [sm] using hn) (sm_stV hst) (sm_8 (rmB_ok hq).2) hd (hc α X C) (G_contL (QV' := rt none Z) hA (by rintro _ _ ⟨rfl, rfl⟩; exact kk) C E)
end LW
theorem aosH {Z : HS} (hH : SH Z) : ∀ r, r ∈ [sid 4, 800000, 900000, 1990000] → xK Z r ≠ 99 ∨ ∃ i, i < 5 ∧ r = sid i := by
  intro r hr
  simp only [List.mem_cons, List.not_mem_nil, or_false] at hr
  rcases hr with rfl | rfl | rfl | rfl
  · exact Or.inr ⟨4, by decide, rfl⟩
  · exact Or.inl (by rw [sh_k hH]; decide)
  · exact Or.inl (by rw [hH.2.2.2.2.1.1]; decide)
  · exact Or.inl (by rw [hH.2.2.2.2.2.1]; decide)
theorem wk7 {a b c d e x y : Option Value} : ∀ (i : Nat) (v : Value), [a, b, c, d, e, none, none][i]? = some (some v) → [a, b, c, d, e, x, y][i]? = some (some v) := by
  intro i v h
  match i, h with
  | 0, h => exact h
  | 1, h => exact h
  | 2, h => exact h
  | 3, h => exact h
  | 4, h => exact h
  | 5, h => cases h
  | 6, h => cases h
  | n + 7, h => cases h
