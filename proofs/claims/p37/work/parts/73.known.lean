-- ===== calls on a hall whose numbers are known =====
section KN
variable {Γ : GTy} {n : Nat} {Z : HS} {F A : FT} {g : GN}
theorem g16_of (h : CI n Z F g A) {m : Nat} (e : F 10 0 = nI m) (hm : m < 1000) : g 16 0 = m := by
  have q := h.2.1.1.1.2
  exact (nI_eq (by omega) (by omega)).mp (q.1.symm.trans e)
theorem g15_of (h : CI n Z F g A) {m : Nat} (e : F 0 0 = nI m) (hm : m < 20000) : g 15 0 = m := by
  have q := h.2.1.1.1.1
  exact (nI_eq (by omega) (by omega)).mp (q.1.symm.trans e)
theorem fr_lt (h : CI n Z F g A) {f m : Nat} (e : F 10 0 = nI m) (hm : f < m ∧ m < 1000) : f < g 16 0 := by rw [g16_of h e hm.2]; exact hm.1
theorem k_refuses (h : CI n Z F g A) {m : Nat} (e : F 10 0 = nI m) (hm : m < 1000) : Tn Γ M_L_refuses [.ref 800000, .int (nI m)] Z (rt (some (.int (nI 1))) Z) := by
  have q := C_refuses (Γ := Γ) h
  rw [g16_of h e hm] at q
  exact q
theorem k_takeBack (h : CI n Z F g A) (hn : n < 512) {u l : Nat} (hu : u < 6) (e : F 107 u = nI l) (hl : l < 100) : MU Γ n M_X9_takeBack [.int (nI u)] Z [xIO, xIS] (mBack F u l).1 (mBack F u l).2 := by
  have q := (h.2.1.1.2.2.1 u hu).1
  have e1 : g 4 u = l := (nI_eq (by omega) (by omega)).mp (q.1.symm.trans e)
  have r := m_takeBack (Γ := Γ) h hn hu
  rw [e1] at r
  exact r
theorem k_end (h : CI n Z F g A) (hn : n < 512) {t r k : Nat} (ht : t < 4) (er : F 103 t = nI r) (ek : F 104 t = nI k) (b : r < 100 ∧ k < 100) : MU Γ n M_X9_end [.int (nI t)] Z [xIO, xIS] (mEnd F t r k).1 (mEnd F t r k).2 := by
  have q := h.2.1.1.2.1 t ht
  have q20 := h.2.1.1.1.2.2
  have e1 : g 0 t = r := (nI_eq (by have := q.2.1.2; omega) (by omega)).mp (q.2.1.1.symm.trans er)
  have e2 : g 1 t = k := (nI_eq (by have := q.2.2.1.2; omega) (by omega)).mp (q.2.2.1.1.symm.trans ek)
  have r := m_end (Γ := Γ) h hn ht
  rw [e1, e2] at r
  exact r
theorem k_tear (h : CI n Z F g A) (hn : n < 512) {t r k : Nat} (ht : t < 4) (er : F 103 t = nI r) (ek : F 104 t = nI k) (b : r < 100 ∧ k < 100) : MU Γ n M_X9_tear [.int (nI t)] Z [xIO, xIS] (mTear F t r k).1 (mTear F t r k).2 := by
  have q := h.2.1.1.2.1 t ht
  have q20 := h.2.1.1.1.2.2
  have e1 : g 0 t = r := (nI_eq (by have := q.2.1.2; omega) (by omega)).mp (q.2.1.1.symm.trans er)
  have e2 : g 1 t = k := (nI_eq (by have := q.2.2.1.2; omega) (by omega)).mp (q.2.2.1.1.symm.trans ek)
  have r := m_tear (Γ := Γ) h hn ht
  rw [e1, e2] at r
  exact r
theorem k_resume (h : CI n Z F g A) (hn : n < 512) {f t a b u : Nat} (hf : f < g 16 0) (ht : t < 4) (ea : F 111 (2 * f) = nI a) (eb : F 111 (2 * f + 1) = nI b) (eu : F 114 f = nI u) (hb : a < 100 ∧ b < 100 ∧ u < 100) : MU Γ n M_X9_resume [.int (nI f), .int (nI t)] Z [xIO, xIS] (mResume F f t a b u).1 (mResume F f t a b u).2 := by
  have q := (h.2.1.1.2.2.2.2.1 f hf).1
  have e1 : g 20 f = a := (nI_eq (by have := q.1.2; omega) (by omega)).mp (q.1.1.symm.trans ea)
  have e2 : g 21 f = b := (nI_eq (by have := q.2.1.2; omega) (by omega)).mp (q.2.1.1.symm.trans eb)
  have e3 : g 22 f = u := (nI_eq (by have := q.2.2.2.1.2; omega) (by omega)).mp (q.2.2.2.1.1.symm.trans eu)
  have r := m_resume (Γ := Γ) h hn hf ht
  rw [e1, e2, e3] at r
  exact r
theorem k_begin (hG : GS Γ) (h : CI n Z F g A) (hn : n < 512) {t a c m : Nat} {z : Int32} (ht : t < 4) (ha : a < 8) (hc : c < 8) (hz : z = 0 ∨ z = 1) (e : F 10 0 = nI m) (hm : m < 1000) : MU Γ n M_X9_begin [.int (nI t), .int (nI a), .int (nI c), .int z] Z [xIO, xIA, xIS] (mBegin F t a c m z).1 (mBegin F t a c m z).2 := by
  have r := m_begin (Γ := Γ) hG h hn ht ha hc hz
  rw [g16_of h e hm] at r
  exact r
def hsF (F : FT) : Nat → Nat := fun k => (F 104 k).toNatClampNeg
theorem pN_hs {h1 h2 : Nat → Nat} {x : Int32} : ∀ {i : Nat}, (∀ k, k < i → h1 k = h2 k) → pN F h1 x i = pN F h2 x i
  | 0, _ => rfl
  | i + 1, e => by
    show pN F h1 x i + (if cnT F h1 i then x else nI 0) = pN F h2 x i + (if cnT F h2 i then x else nI 0)
    rw [pN_hs (fun k hk => e k (by omega))]
    simp only [cnT, e i (by omega)]
theorem pF_hs {h1 h2 : Nat → Nat} {x : Int32} {i : Nat} (e : ∀ k, k < i → h1 k = h2 k) : pF F h1 x i = pF F h2 x i := by
  funext s j
  unfold pF
  by_cases hj : j < i
  · simp only [cnT, e j hj]
  · rw [if_neg (fun q => hj q.2.1), if_neg (fun q => hj q.2.1)]
theorem hs_g (h : CI n Z F g A) : ∀ k, k < 4 → g 1 k = hsF F k := fun k hk => by
  have q := (h.2.1.1.2.1 k hk).2.2.1
  have q20 := h.2.1.1.1.2.2
  unfold hsF
  rw [q.1, nI_clamp (by omega)]
theorem k_pass (h : CI n Z F g A) (hn : n < 512) {m t : Nat} (e : F 0 0 = nI t) (hb : 1 ≤ m ∧ m ≤ 200 ∧ t + m ≤ 10000) : MU Γ n M_X9_pass [.int (nI m)] Z [xIA, xIS] (pN F (hsF F) (nI m) 4) (pF (pG F (nI m)) (hsF F) (nI m) 4) := by
  have r := m_pass (Γ := Γ) h hn hb.1 hb.2.1 (by rw [g15_of h e (by omega)]; exact hb.2.2)
  rw [pN_hs (h1 := g 1) (h2 := hsF F) (fun k hk => hs_g h k hk), pF_hs (h1 := g 1) (h2 := hsF F) (fun k hk => hs_g h k hk)] at r
  exact r
theorem k_passY (h : CI n Z F g A) {m t : Nat} (e : F 0 0 = nI t) (hb : 1 ≤ m ∧ m ≤ 200 ∧ ¬ t + m ≤ 10000 ∧ t < 20000) {y z : Int32} : Tw Γ M_L_act [.ref 800000, .int (nI 5), .int (nI m), .int y, .int z] Z (rt (some (.int (-73))) Z) noX :=
  ar_passY h hb.1 hb.2.1 (by rw [g15_of h e hb.2.2.2]; exact hb.2.2.1)
theorem k_shoot (hG : GS Γ) (h : CI n Z F g A) (hn : n < 512) {f d c u : Nat} {z : Int32} {W : FT} (hf : f < g 16 0) (d8 : d < 8) (hz : nI 1 ≤ z ∧ z ≤ nI 40) (hs : F 113 f = nI 0) (c8 : c < 8) (eu : F 114 f = nI u) (ec : F 111 (2 * f + u) = nI c) (hu : u < 100) (eW : shW F f d c z = W) : MU Γ n M_X9_shoot [.int (nI f), .int (nI d), .int z] Z [xIO, xIA, xIS] (mShE W f u (lowF F f)).1 (mShE W f u (lowF F f)).2 := by
  have q := (h.2.1.1.2.2.2.2.1 f hf).1
  have e3 : g 22 f = u := (nI_eq (by have := q.2.2.2.1.2; omega) (by omega)).mp (q.2.2.2.1.1.symm.trans eu)
  have r := m_shoot (Γ := Γ) hG h hn hf d8 hz hs c8 (by rw [e3]; exact ec)
  rw [e3, eW] at r
  exact r
/-- the numbers behind a shot's roll, without a cue and with one -/
theorem shW_0 {f d c N : Nat} {z w : Int32} (h0 : lastW (fun k => F 107 k = nI (c + 1)) 6 = -1) (hw : forceF (thr (thr F (nI 0)) (nI 0)) c z = w) (hN : rnR 300 (encL (mS0 (thr (thr F (nI 0)) (nI 0)) f d w) pL) = N) : shW F f d c z = ovr (toP N) (thr (thr F (nI 0)) (nI 0)) := by
  rw [show shW F f d c z = _ from if_pos h0, hw]
  exact shot_Z hN
theorem shW_1 {f d c N v : Nat} {z w : Int32} (h0 : lastW (fun k => F 107 k = nI (c + 1)) 6 = nI v) (hv : v < 100) (hw : forceF (thr (thr F (nI 0)) (nI 0)) c z = w) (hN : rnR 300 (encL (mS0 (thr (thr F (nI 0)) (nI 0)) f d w) pL) = N) : shW F f d c z = u2 (ovr (toP N) (thr (thr F (nI 0)) (nI 0))) 108 v (wearF (F 108 v) z) := by
  rw [show shW F f d c z = _ from if_neg (fun q => nI_nm1 (by omega) (h0.symm.trans q)), h0, nI_clamp (by omega), hw, shot_Z hN]
theorem k_meets (hG : GS Γ) (h : CI n Z F g A) {f d N : Nat} {z v : Int32} (hf : f < g 16 0) (d8 : d < 8) (hz : nI 1 ≤ z ∧ z ≤ nI 40) (hN : rnR 300 (encL (mS0 (thr (thr F (nI 0)) (nI 0)) f d z) pL) = N) (hv : toP N 23 0 = v) : Tn Γ M_L_meets [.ref 800000, .int (nI f), .int (nI d), .int z, .int v] Z (fun r Z' => r = some (.int (nI 1)) ∧ CI n Z' F g A) :=
  C_meets hG h hf d8 hz (by rw [shot_Z hN]; exact hv)
theorem no_x {F' : FT} {i : Nat} {es : List String} {E : String} (hl : es.length < 1000) (h0 : F' 25 0 = nI 0) (h1 : es[i]? = some E) (h2 : F' 25 0 = nI (i + 1)) {q : Prop} : q := by
  have hi : i < es.length := (List.getElem?_eq_some_iff.mp h1).1
  exact absurd ((nI_eq (by decide) (by omega)).mp (h0.symm.trans h2)) (by omega)
theorem one_x {F' : FT} {i i0 : Nat} {es : List String} {E E0 : String} (hl : es.length < 1000) (h0 : F' 25 0 = nI (i0 + 1)) (he : es[i0]? = some E0) (h1 : es[i]? = some E) (h2 : F' 25 0 = nI (i + 1)) {v : Int32} (hv : xc E0 = v) : (some (Value.int (xc E))) = some (.int v) := by
  have a0 := (List.getElem?_eq_some_iff.mp he).1
  have a1 := (List.getElem?_eq_some_iff.mp h1).1
  have e2 : i0 = i := by
    have := (nI_eq (by omega) (by omega)).mp (h0.symm.trans h2)
    omega
  subst e2
  have e3 : E0 = E := Option.some.inj (he.symm.trans h1)
  subst e3
  rw [hv]
/-- what act gives back of a call that changes -/
abbrev QA (n : Nat) (Z : HS) (F' : FT) (v : Int32) : Option Value → HS → Prop := fun r Z' => r = some (.int v) ∧ PN n Z Z' F'
end KN
section TOP
variable {Γ : GTy} {μ : MTy} {R : Room} {W : WTy} {k : Nat × Nat} {pc : Nat} {L : List (Option Value)} {st : List Value} {Y : HS}
theorem G_val {v w : Int32} (e : v = w) (kk : G Γ μ R W k pc L (.int w :: st) Y) : G Γ μ R W k pc L (.int v :: st) Y := by rw [e]; exact kk
/-- a static method that never throws -/
theorem R_S {ν : MTy} {n idx : Nat} {k' : Nat × Nat} {as rest st0 : List Value} {QV' : Option Value → HS → Prop} (hM : MOK ν n) (hl : LkS (mN μ).cls idx ν) (hq : rmB R ν k rest = true) (hn : as.length = n) (hst : st0 = as.reverse ++ rest) (hA : AOK μ ν L rest Y) (hd : decode (mC μ) pc = .ok (.invokestatic idx, 3)) (hc : Tn Γ ν as Y QV') (hk : (k.1 + mM ν, k.2 + mS ν) = k') (kk : ∀ (v : Option Value) (Y' : HS), QV' v Y' → G Γ μ R W k' (pc + 3) L (v.toList ++ rest) Y') : G Γ μ R W k pc L st0 Y := by
  subst hk
  exact G_callSn hM hl (rmB_ok hq).1 hn hst (rmB_ok hq).2 hA hd hc kk
end TOP
