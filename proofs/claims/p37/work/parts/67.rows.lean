-- ===== rows of the law's methods =====
theorem rmB_le {R : Room} {ν : MTy} {k : Nat × Nat} {rest : List Value} {a b : Nat} (h : rmB R ν (a, b) rest = true) (h1 : k.1 ≤ a) (h2 : k.2 ≤ b) : rmB R ν k rest = true := by
  simp only [rmB, Bool.and_eq_true] at h ⊢
  refine ⟨h.1, h.2.1, Nat.ble_eq.mpr ?_, Nat.ble_eq.mpr ?_, h.2.2.2.2⟩
  · exact Nat.le_trans (Nat.add_le_add_right h1 _) (Nat.le_of_ble_eq_true h.2.2.1)
  · exact Nat.le_trans (Nat.add_le_add_right h2 _) (Nat.le_of_ble_eq_true h.2.2.2.1)
theorem cst_ok : Cond.constant RL 121 2147483647 ∈ BW := by
  have h : (lw_tb2.any fun w => match w with
    | .constant o i v => o == RL && (i == 121 && v == 2147483647) && goodWord w
    | _ => false) = true := by decide +kernel
  obtain ⟨w, h1, h2⟩ := List.any_eq_true.mp h
  cases w <;> simp only [Bool.and_eq_true, beq_iff_eq, reduceCtorEq, Bool.false_eq_true] at h2
  obtain ⟨⟨rfl, rfl, rfl⟩, h3⟩ := h2
  exact bw_in h1 h3
section RW2
variable {Γ : GTy} {μ : MTy} {R : Room} {W : WTy} {k : Nat × Nat} {pc : Nat} {L : List (Option Value)} {st : List Value} {Y : HS}
theorem G_ldc {idx : Nat} {v : Int32} (hw : Cond.constant (mN μ).cls idx v ∈ BW) (hd : decode (mC μ) pc = .ok (.ldc idx, 2)) (kk : G Γ μ R W k (pc + 2) L (.int v :: st) Y) : G Γ μ R W k pc L st Y := by
  intro α0 Y0 α X C E p e s m args below meth c H locs ls Cx S P Lr
  have K := kk α0 Y0 α X C E p e s m args below meth c H locs ls Cx S P Lr
  obtain ⟨x1, x2, x3, x4, x5, x6, x7, x8, x9, x10⟩ := Cx
  exact lv_ldc x1 x2 x7 (x9 _ hw) hd K
theorem G_iushr {x y : Int32} (hd : decode (mC μ) pc = .ok (.iushr, 1)) (kk : G Γ μ R W k (pc + 1) L (.int ((x.toUInt32 >>> (y.toUInt32 &&& Int32.toUInt32 31)).toInt32) :: st) Y) : G Γ μ R W k pc L (.int y :: .int x :: st) Y := by
  intro α0 Y0 α X C E p e s m args below meth c H locs ls Cx S P Lr
  have K := kk α0 Y0 α X C E p e s m args below meth c H locs ls Cx S P Lr
  exact lv_iushr Cx.1 Cx.2.1 hd rfl K
/-- a call of the hall that returns bb -/
theorem R_V {ν : MTy} {n idx b : Nat} {k' : Nat × Nat} {as rest st0 : List Value} {P : HS → FT → Prop} {F' : FT} {bb : Int32} {es : List String} (hM : MOK ν n) (hl : LkV (mN μ).cls idx ν) (hb : xK Y b = 8) (hcc : cN 8 = (mN ν).cls) (hq : rmB R ν k rest = true) (hn : as.length = n) (hst : st0 = as.reverse ++ .ref b :: rest) (hA : AOK μ ν L rest Y) (hd : decode (mC μ) pc = .ok (.invokevirtual idx, 3)) (hc : Tt Γ ν (.ref b :: as) Y (QVo P Y F' bb) (QXo P Y F' es)) (he : es.length < 1000) (h0 : F' 25 0 = nI 0) (hk : (k.1 + mM ν, k.2 + mS ν) = k')
    (kk : ∀ Y' : HS, P Y' F' → G Γ μ R W k' (pc + 3) L (.int bb :: rest) Y') : G Γ μ R W k pc L st0 Y := by
  subst hk
  refine G_callV hM hl (rmB_ok hq).1 hb (by decide) hcc hn hst (rmB_ok hq).2 hA hd hc ?_ ?_
  · rintro v Y' ⟨rfl, -, hP⟩
    exact kk Y' hP
  · rintro E Y' ⟨i, h1, h2, -⟩
    have hi : i < es.length := (List.getElem?_eq_some_iff.mp h1).1
    exact absurd ((nI_eq (by decide) (by omega)).mp (h0.symm.trans h2)) (by omega)
/-- as AOK, static arrays among the locals too -/
def AOS (μ ν : MTy) (L : List (Option Value)) (rest : List Value) (Y : HS) : Prop := mA ν = true → mA μ = true ∧ (∀ r ∈ rfs L, xK Y r ≠ 99 ∨ ∃ i, i < 5 ∧ r = sid i) ∧ (∀ r ∈ rfv rest, xK Y r ≠ 99)
theorem aos0 {ν : MTy} {rest : List Value} (h : mA ν = false) : AOS μ ν L rest Y := fun h' => by rw [h] at h'; cases h'
theorem AOS.eq {ν : MTy} {rest : List Value} {α α' : Nat → Nat} {Y' X X' : HS} (h : AOS μ ν L rest Y) (C : CR Γ α Y X) (C' : CR Γ α' Y' X') (E : Ext (mA ν) α Y α' Y') : lm α' L = lm α L ∧ sm α' rest = sm α rest := by
  cases hA : mA ν
  · rw [hA] at E
    rw [E.1]
    exact ⟨rfl, rfl⟩
  · rw [hA] at E
    obtain ⟨-, h1, h2⟩ := h hA
    refine ⟨lm_eq (fun r hr => ?_), sm_eq (fun r hr => (E r (h2 r hr)).1)⟩
    rcases h1 r hr with h3 | ⟨i, hi, rfl⟩
    · exact (E r h3).1
    · exact (C'.2.2.2.2.1 i hi).trans (C.2.2.2.2.1 i hi).symm
theorem G_contL {ν : MTy} {rest : List Value} {QV' : Option Value → HS → Prop} {k' : Nat × Nat} {pc' : Nat} (hA : AOS μ ν L rest Y) (kk : ∀ (v : Option Value) (Y' : HS), QV' v Y' → G Γ μ R W k' pc' L (v.toList ++ rest) Y')
    {α0 : Nat → Nat} {Y0 : HS} {α : Nat → Nat} {X : HS} (C : CR Γ α Y X) (E : Ext (mA μ) α0 Y0 α Y) : ∀ (v : Option Value) (X' : HS), QVc Γ (mA ν) α Y QV' v X' → J Γ μ R (W α0 Y0) k' pc' (lm α L) (v.toList ++ sm α rest) X' := by
  rintro v X' ⟨α', Y', u, rfl, hq, C', E'⟩
  obtain ⟨e1, e2⟩ := hA.eq C C' E'
  have h := kk u Y' hq α0 Y0 α' X' C' (E.trans E' (fun h => (hA h).1))
  rw [e1] at h
  have e3 : (u.map (cv α')).toList ++ sm α rest = sm α' (u.toList ++ rest) := by
    rw [← e2]
    cases u <;> simp [sm]
  rw [e3]
  exact h
/-- calls out of the law itself -/
theorem K_LW {ν : MTy} {n idx : Nat} {k' : Nat × Nat} {as rest : List Value} {st0 : List Value} {QV' : Option Value → HS → Prop} (hM : MOW ν n) (hl : LkS (mN μ).cls idx ν) (hq : rmB R ν k rest = true) (hn : as.length = n) (hst : st0 = as.reverse ++ rest) (hA : AOS μ ν L rest Y) (hd : decode (mC μ) pc = .ok (.invokestatic idx, 3)) (hc : Tw Γ ν as Y QV' (fun _ _ => False)) (hk : (k.1 + mM ν, k.2 + mS ν) = k')
    (kk : ∀ (v : Option Value) (Y' : HS), QV' v Y' → G Γ μ R W k' (pc + 3) L (v.toList ++ rest) Y') : G Γ μ R W k pc L st0 Y := by
  subst hk
  exact fun α0 Y0 α X C E => J_callSW hM hl (rmB_ok hq).1 (as := sm α as) (by simpa [sm] using hn) (sm_stS hst) (sm_8 (rmB_ok hq).2) hd (hc α X C) (G_contL hA kk C E) (by rintro N X' ⟨α', Y', h, -⟩; exact h.elim)
theorem K_LS {ν : MTy} {n idx : Nat} {k' : Nat × Nat} {as rest : List Value} {st0 : List Value} {QV' : Option Value → HS → Prop} (hM : MOK ν n) (hl : LkS (mN μ).cls idx ν) (hq : rmB R ν k rest = true) (hn : as.length = n) (hst : st0 = as.reverse ++ rest) (hA : AOS μ ν L rest Y) (hd : decode (mC μ) pc = .ok (.invokestatic idx, 3)) (hc : Tn Γ ν as Y QV') (hk : (k.1 + mM ν, k.2 + mS ν) = k')
    (kk : ∀ (v : Option Value) (Y' : HS), QV' v Y' → G Γ μ R W k' (pc + 3) L (v.toList ++ rest) Y') : G Γ μ R W k pc L st0 Y := by
  subst hk
  exact fun α0 Y0 α X C E => J_callSn hM hl (rmB_ok hq).1 (as := sm α as) (by simpa [sm] using hn) (sm_stS hst) (sm_8 (rmB_ok hq).2) hd (hc α X C) (G_contL hA kk C E)
theorem K_LI {ν : MTy} {n idx b : Nat} {k' : Nat × Nat} {as rest : List Value} {st0 : List Value} {Z : HS} (hM : MOK ν n) (hl : LkI (mN μ).cls idx ν) (hq : rmB R ν k rest = true) (hn : as.length = n) (hst : st0 = as.reverse ++ .ref b :: rest) (hA : AOS μ ν L rest Y) (hd : decode (mC μ) pc = .ok (.invokespecial idx, 3)) (hc : Tn Γ ν (.ref b :: as) Y (rt none Z)) (hk : (k.1 + mM ν, k.2 + mS ν) = k')
    (kk : G Γ μ R W k' (pc + 3) L rest Z) : G Γ μ R W k pc L st0 Y := by
  subst hk
  exact fun α0 Y0 α X C E => J_callI hM hl (rmB_ok hq).1 (as := sm α as) (by simpa [sm] using hn) (sm_stV hst) (sm_8 (rmB_ok hq).2) hd (hc α X C) (G_contL (QV' := rt none Z) hA (by rintro _ _ ⟨rfl, rfl⟩; exact kk) C E)
theorem R_L {ν : MTy} {n idx b : Nat} {k' : Nat × Nat} {as rest st0 : List Value} {P : HS → FT → Prop} {F' : FT} {bb : Int32} {es : List String} (hM : MOK ν n) (hl : LkV (mN μ).cls idx ν) (hb : xK Y b = 8) (hcc : cN 8 = (mN ν).cls) (hq : rmB R ν k rest = true) (hn : as.length = n) (hst : st0 = as.reverse ++ .ref b :: rest) (hA : AOS μ ν L rest Y) (hd : decode (mC μ) pc = .ok (.invokevirtual idx, 3)) (hc : Tt Γ ν (.ref b :: as) Y (QVo P Y F' bb) (QXo P Y F' es)) (he : es.length < 1000) (h0 : F' 25 0 = nI 0) (hk : (k.1 + mM ν, k.2 + mS ν) = k')
    (kk : ∀ Y' : HS, P Y' F' → G Γ μ R W k' (pc + 3) L (.int bb :: rest) Y') : G Γ μ R W k pc L st0 Y := by
  subst hk
  refine fun α0 Y0 α X C E => J_callV hM hl (rmB_ok hq).1 (C.K hb (by decide)) (by decide) hcc (as := sm α as) (by simpa [sm] using hn) (sm_stV hst) (sm_8 (rmB_ok hq).2) hd (hc α X C) (G_contL (QV' := QVo P Y F' bb) hA (by rintro v Y' ⟨rfl, -, hP⟩; exact kk Y' hP) C E) ?_
  rintro N X' ⟨α', Y', ⟨i, h1, h2, -⟩, -⟩
  have hi : i < es.length := (List.getElem?_eq_some_iff.mp h1).1
  exact absurd ((nI_eq (by decide) (by omega)).mp (h0.symm.trans h2)) (by omega)
/-- a new object, static arrays among the locals -/
theorem Ext_U {α : Nat → Nat} : Ext (mA μ) α U0 α U0 := Ext.rf
/-- what is not held any more may be forgotten -/
theorem G_forget (hW : ∀ (α0 α1 : Nat → Nat) (Y0 Y1 : HS), W α0 Y0 = W α1 Y1) (hL : ∀ r ∈ rfs L, ∃ i, i < 5 ∧ r = sid i) (hs : rfv st = []) (kk : G Γ μ R W k pc L st U0) : G Γ μ R W k pc L st Y := by
  intro α0 Y0 α X C E p e s m args below meth c H locs ls Cx S P Lr
  have C0 : CR Γ α U0 U0 := ⟨fun a ha => absurd ha List.not_mem_nil, rfl, fun a ha => absurd ha List.not_mem_nil, fun a => ⟨fun _ => rfl, fun _ => List.not_mem_nil⟩, C.2.2.2.2.1, fun a ha => absurd ha List.not_mem_nil, fun a ha => absurd ha List.not_mem_nil⟩
  have K := kk α U0 α U0 C0 Ext.rf p e s m args below meth c H locs ls Cx S ⟨P.1.sub [] rfl, P.2.1.sub [] rfl rfl, fun _ _ => rfl⟩ Lr
  rw [hW α α0 U0 Y0] at K
  exact K
end RW2
